set_option maxHeartbeats 4000000 in
set_option maxRecDepth 100000 in
theorem c_X5_isKind (l : Launch) (D : va_G) (g : xG) (T : Nat × Nat × Nat) (h0 : Nat) (s0 : xS) (hσ : xRR s0) (x : Int) (rx : xR x) : Met l yX5_isKind (xws yX5_isKind cX5_isKind 1 (some .boolean)) { frames := 0, cells := 0, slots := 0, locals := 0 } (xP [.int (xJ x)] D g T h0 s0) (xQi D g h0 (fun r τ => s0 = τ ∧ (r = 0 ∨ (r = 1 ∧ 97 ≤ x)))) 0 0 (xA h0) := by
  refine x_met hσ (by decide) (Nat.le_of_ble_eq_true rfl) ?_
  intro p e s m args below meth c hx hb hr hml hown hT hlk hnm hE hW ls hl
  have hl : lv_has ls 1 [(0, .int (xJ x))] := hl
  obtain ⟨Q, eQ⟩ : ∃ Q, Q = MQ below (xQi D g h0 (fun r τ => s0 = τ ∧ (r = 0 ∨ (r = 1 ∧ 97 ≤ x)))) args s 0 0 (xA h0) := ⟨_, rfl⟩
  rw [← eQ]
  generalize hHe : ([] : List Loc) = locs at hW ⊢
  obtain ⟨H, eH⟩ : ∃ H, H = s.heap := ⟨_, rfl⟩
  rw [← eH] at hW ⊢
  refine x_iload_n hx hb hl 0 rfl dX5_isKind_0 rfl ?_
  refine x_bipush hx hb dX5_isKind_1 (by decide) ?_
  refine x_icmp_eq (tgt := 36) hx hb rx (by decide) dX5_isKind_3 (by decide) (fun c1 => ?_) (fun c1 => ?_)
  · skip
    refine x_iconst hx hb dX5_isKind_36 ?_
    refine lv_goto (tgt := 41) hx hb dX5_isKind_37 (by decide) ?_
    rw [eQ]
    exact x_zret hx hb hr hlk hW (by omega) ⟨rfl, by omega⟩ dX5_isKind_41
  refine x_iload_n hx hb hl 0 rfl dX5_isKind_6 rfl ?_
  refine x_bipush hx hb dX5_isKind_7 (by decide) ?_
  refine x_icmp_eq (tgt := 36) hx hb rx (by decide) dX5_isKind_9 (by decide) (fun c2 => ?_) (fun c2 => ?_)
  · skip
    refine x_iconst hx hb dX5_isKind_36 ?_
    refine lv_goto (tgt := 41) hx hb dX5_isKind_37 (by decide) ?_
    rw [eQ]
    exact x_zret hx hb hr hlk hW (by omega) ⟨rfl, by omega⟩ dX5_isKind_41
  refine x_iload_n hx hb hl 0 rfl dX5_isKind_12 rfl ?_
  refine x_bipush hx hb dX5_isKind_13 (by decide) ?_
  refine x_icmp_eq (tgt := 36) hx hb rx (by decide) dX5_isKind_15 (by decide) (fun c3 => ?_) (fun c3 => ?_)
  · skip
    refine x_iconst hx hb dX5_isKind_36 ?_
    refine lv_goto (tgt := 41) hx hb dX5_isKind_37 (by decide) ?_
    rw [eQ]
    exact x_zret hx hb hr hlk hW (by omega) ⟨rfl, by omega⟩ dX5_isKind_41
  refine x_iload_n hx hb hl 0 rfl dX5_isKind_18 rfl ?_
  refine x_bipush hx hb dX5_isKind_19 (by decide) ?_
  refine x_icmp_eq (tgt := 36) hx hb rx (by decide) dX5_isKind_21 (by decide) (fun c4 => ?_) (fun c4 => ?_)
  · skip
    refine x_iconst hx hb dX5_isKind_36 ?_
    refine lv_goto (tgt := 41) hx hb dX5_isKind_37 (by decide) ?_
    rw [eQ]
    exact x_zret hx hb hr hlk hW (by omega) ⟨rfl, by omega⟩ dX5_isKind_41
  refine x_iload_n hx hb hl 0 rfl dX5_isKind_24 rfl ?_
  refine x_bipush hx hb dX5_isKind_25 (by decide) ?_
  refine x_icmp_eq (tgt := 36) hx hb rx (by decide) dX5_isKind_27 (by decide) (fun c5 => ?_) (fun c5 => ?_)
  · skip
    refine x_iconst hx hb dX5_isKind_36 ?_
    refine lv_goto (tgt := 41) hx hb dX5_isKind_37 (by decide) ?_
    rw [eQ]
    exact x_zret hx hb hr hlk hW (by omega) ⟨rfl, by omega⟩ dX5_isKind_41
  refine x_iload_n hx hb hl 0 rfl dX5_isKind_30 rfl ?_
  refine x_bipush hx hb dX5_isKind_31 (by decide) ?_
  refine x_icmp_ne (tgt := 40) hx hb rx (by decide) dX5_isKind_33 (by decide) (fun c6 => ?_) (fun c6 => ?_)
  · skip
    refine x_iconst hx hb dX5_isKind_40 ?_
    rw [eQ]
    exact x_zret hx hb hr hlk hW (by omega) ⟨rfl, by omega⟩ dX5_isKind_41
  refine x_iconst hx hb dX5_isKind_36 ?_
  refine lv_goto (tgt := 41) hx hb dX5_isKind_37 (by decide) ?_
  rw [eQ]
  exact x_zret hx hb hr hlk hW (by omega) ⟨rfl, by omega⟩ dX5_isKind_41
set_option maxHeartbeats 4000000 in
set_option maxRecDepth 100000 in
theorem c_X5_readNumber (l : Launch) (D : va_G) (g : xG) (T : Nat × Nat × Nat) (h0 : Nat) (s0 : xS) (hσ : xRR s0) (p0 : IC s0) : Met l yX5_readNumber (xws yX5_readNumber cX5_readNumber 3 (some .boolean)) { frames := 2, cells := 0, slots := 0, locals := 40 } (xP [.ref (h0 + 117)] D g T h0 s0) (xQi D g h0 (fun r τ => xFr (fun k => k = 1 ∨ k = 118 ∨ k = 119 ∨ k = 120) s0 τ ∧ (((IC τ) ∧ (τ 1 1 = s0 1 1) ∧ True) ∧ (r = 0 ∨ r = 1)))) 0 0 (xA h0) := by
  refine x_met hσ (by decide) (Nat.le_of_ble_eq_true rfl) ?_
  intro p e s m args below meth c hx hb hr hml hown hT hlk hnm hE hW ls hl
  have hl : lv_has ls 3 [(0, .ref (h0 + 117))] := hl
  obtain ⟨Q, eQ⟩ : ∃ Q, Q = MQ below (xQi D g h0 (fun r τ => xFr (fun k => k = 1 ∨ k = 118 ∨ k = 119 ∨ k = 120) s0 τ ∧ (((IC τ) ∧ (τ 1 1 = s0 1 1) ∧ True) ∧ (r = 0 ∨ r = 1)))) args s 0 0 (xA h0) := ⟨_, rfl⟩
  rw [← eQ]
  generalize hHe : ([] : List Loc) = locs at hW ⊢
  obtain ⟨H, eH⟩ : ∃ H, H = s.heap := ⟨_, rfl⟩
  rw [← eH] at hW ⊢
  have hF : xFr (fun k => k = 1 ∨ k = 118 ∨ k = 119 ∨ k = 120) s0 s0 := xFr.rf
  have k1_1 : s0 1 1 = s0 1 1 := rfl
  refine x_iconst hx hb dX5_readNumber_0 ?_
  refine lv_istore_n (lv' := [(1, .int (xJ 0)), (0, .ref (h0 + 117))]) hx hb dX5_readNumber_1 rfl hl (by decide) rfl (fun ls hl => ?_)
  refine x_iconst hx hb dX5_readNumber_2 ?_
  refine lv_istore_n (lv' := [(2, .int (xJ 0)), (1, .int (xJ 0)), (0, .ref (h0 + 117))]) hx hb dX5_readNumber_3 rfl hl (by decide) rfl (fun ls hl => ?_)
  have L4 : ∀ (fu : Nat) (i1_4 : Int) (i2_4 : Int) (s_4 : xS) (H : Heap) (locs : List Loc) (ls : Array Slot), (xR i1_4) → (xR i2_4) → (xFr (fun k => k = 1 ∨ k = 118 ∨ k = 119 ∨ k = 120) s0 s_4) → (IC s_4) → (s_4 1 1 = s0 1 1) → (0 ≤ i2_4) → (i2_4 ≤ 5) → (5 + 1 - i2_4).toNat < fu → xW D g h0 s H locs s_4 → lv_has ls 3 [(0, .ref (h0 + 117)), (1, .int (xJ i1_4)), (2, .int (xJ i2_4))] → W p l e { frames := 2, cells := 0, slots := 0, locals := 40 } s m args below meth c H locs 0 0 Q (F0 m 4 ls []) := by
    intro fu
    induction fu with
    | zero => intro i1_4 i2_4 s_4 H locs ls ri1_4 ri2_4 hF_4 q4_0 q4_1 v4_0 v4_1 hm; exact absurd hm (Nat.not_lt_zero _)
    | succ fu ih4 =>
      intro i1_4 i2_4 s_4 H locs ls ri1_4 ri2_4 hF_4 q4_0 q4_1 v4_0 v4_1 hm hW hl
      refine x_iload_n hx hb hl 2 rfl dX5_readNumber_4 rfl ?_
      refine x_iconst hx hb dX5_readNumber_5 ?_
      have J54 : ∀ (H : Heap) (locs : List Loc) (ls : Array Slot), xW D g h0 s H locs s_4 → lv_has ls 3 [(0, .ref (h0 + 117)), (1, .int (xJ i1_4))] → W p l e { frames := 2, cells := 0, slots := 0, locals := 40 } s m args below meth c H locs 0 0 Q (F0 m 54 ls []) := by
        intro H locs ls  hW hl
        refine x_aload_n hx hb hl 0 rfl dX5_readNumber_54 rfl ?_
        refine x_get (j := 0) (v := .ref (h0 + 1)) hx hb hown hT hE hW cls_X5 (Or.inl (by decide)) (so_117 h0 g _) (by decide) rfl wq293 dX5_readNumber_55 ?_
        refine x_goi (x_runVN (As := []) hx hb hml hown hT hE hW hl.1 (Or.inl (by decide)) (so_1 h0 g _) rfl cf_X8_isDigit wq664 wq19 wn662 (c_X8_isDigit l D g T h0 s_4 hW.2.1 q4_0) ⟨rfl, rfl, ⟨by decide, by decide⟩, ⟨by decide, by decide⟩⟩ rfl rfl (Nat.le_of_ble_eq_true rfl) dX5_readNumber_58) hW (fun x1 s2 H locs rx1 hp3 hW => ?_)
        obtain ⟨es2, hp3⟩ := hp3
        subst es2
        have ghp3 := hp3
        refine x_if_eq (tgt := 80) hx hb rx1 dX5_readNumber_61 (by decide) (fun c4 => ?_) (fun c4 => ?_)
        · skip
          refine x_aload_n hx hb hl 0 rfl dX5_readNumber_80 rfl ?_
          refine x_get (j := 1) (v := .ref (h0 + 118)) hx hb hown hT hE hW cls_X5 (Or.inl (by decide)) (so_117 h0 g _) (by decide) rfl wq294 dX5_readNumber_81 ?_
          refine x_iconst hx hb dX5_readNumber_84 ?_
          refine x_iload_n hx hb hl 1 rfl dX5_readNumber_85 rfl ?_
          refine x_goi (x_runVN (As := [.int (xJ 1), .int (xJ i1_4)]) hx hb hml hown hT hE hW hl.1 (Or.inl (by decide)) (so_118 h0 g _) rfl cf_X4_put wq672 wq21 wn670 (c_X4_put l D g T h0 s_4 hW.2.1 1 (by decide) i1_4 ri1_4 q4_0) ⟨rfl, rfl, ⟨by decide, by decide⟩, ⟨by decide, by decide⟩⟩ rfl rfl (Nat.le_of_ble_eq_true rfl) dX5_readNumber_86) hW (fun x5 s6 H locs rx5 hp7 hW => ?_)
          obtain ⟨fs6, hp7⟩ := hp7
          have hF8 := hF_4.call fs6 (fun k h => by omega)
          have q9 : s6 1 1 = s0 1 1 := (congrFun (fs6 _ (by omega)) _).trans q4_1
          have ghp7 := hp7.2
          refine lv_pop hx hb dX5_readNumber_89 rfl ?_
          refine x_iconst hx hb dX5_readNumber_90 ?_
          rw [eQ]
          exact x_zret hx hb hr hlk hW (by omega) ⟨hF8, ⟨hp7.1.1, q9, trivial⟩, by omega⟩ dX5_readNumber_91
        refine x_aload_n hx hb hl 0 rfl dX5_readNumber_64 rfl ?_
        refine x_get (j := 0) (v := .ref (h0 + 1)) hx hb hown hT hE hW cls_X5 (Or.inl (by decide)) (so_117 h0 g _) (by decide) rfl wq293 dX5_readNumber_65 ?_
        refine x_iconst hx hb dX5_readNumber_68 ?_
        refine x_aload_n hx hb hl 0 rfl dX5_readNumber_69 rfl ?_
        refine x_get (j := 0) (v := .ref (h0 + 1)) hx hb hown hT hE hW cls_X5 (Or.inl (by decide)) (so_117 h0 g _) (by decide) rfl wq293 dX5_readNumber_70 ?_
        refine x_getN (j := 3) (v := .int (xJ (s_4 1 3))) hx hb hown hT hE hW cls_X8 (Or.inl (by decide)) (so_1 h0 g _) (by decide) rfl wn201 dX5_readNumber_73 ?_
        refine x_rd hW (fun x10 ex10 rx10 => ?_)
        refine x_goi (x_runVN (As := [.int (xJ 2), .int (xJ x10)]) hx hb hml hown hT hE hW hl.1 (Or.inl (by decide)) (so_1 h0 g _) rfl cf_X8_fails wq588 wq5 wn645 (c_X8_fails l D g T h0 s_4 hW.2.1 2 (by decide) x10 rx10 q4_0) ⟨rfl, rfl, ⟨by decide, by decide⟩, ⟨by decide, by decide⟩⟩ rfl rfl (Nat.le_of_ble_eq_true rfl) dX5_readNumber_76) hW (fun x11 s12 H locs rx11 hp13 hW => ?_)
        obtain ⟨fs12, hp13⟩ := hp13
        have hF14 := hF_4.call fs12 (fun k h => by omega)
        have ghp13 := hp13.2
        rw [eQ]
        exact x_zret hx hb hr hlk hW (by omega) ⟨hF14, ⟨hp13.1.1, (hp13.1.2.1.trans q4_1), trivial⟩, by omega⟩ dX5_readNumber_79
      refine x_icmp_ge (tgt := 54) hx hb ri2_4 (by decide) dX5_readNumber_6 (by decide) (fun c15 => ?_) (fun c15 => ?_)
      · skip
        exact J54 H locs ls  hW (lv_sub hl [0, 1] rfl)
      refine x_aload_n hx hb hl 0 rfl dX5_readNumber_9 rfl ?_
      refine x_get (j := 0) (v := .ref (h0 + 1)) hx hb hown hT hE hW cls_X5 (Or.inl (by decide)) (so_117 h0 g _) (by decide) rfl wq293 dX5_readNumber_10 ?_
      refine x_goi (x_runVN (As := []) hx hb hml hown hT hE hW hl.1 (Or.inl (by decide)) (so_1 h0 g _) rfl cf_X8_isDigit wq664 wq19 wn662 (c_X8_isDigit l D g T h0 s_4 hW.2.1 q4_0) ⟨rfl, rfl, ⟨by decide, by decide⟩, ⟨by decide, by decide⟩⟩ rfl rfl (Nat.le_of_ble_eq_true rfl) dX5_readNumber_13) hW (fun x16 s17 H locs rx16 hp18 hW => ?_)
      obtain ⟨es17, hp18⟩ := hp18
      subst es17
      have ghp18 := hp18
      refine x_if_eq (tgt := 54) hx hb rx16 dX5_readNumber_16 (by decide) (fun c19 => ?_) (fun c19 => ?_)
      · skip
        exact J54 H locs ls  hW (lv_sub hl [0, 1] rfl)
      refine x_bipush hx hb dX5_readNumber_19 (by decide) ?_
      refine x_iload_n hx hb hl 1 rfl dX5_readNumber_21 rfl ?_
      refine x_imul hx hb dX5_readNumber_22 ?_
      refine x_aload_n hx hb hl 0 rfl dX5_readNumber_23 rfl ?_
      refine x_get (j := 0) (v := .ref (h0 + 1)) hx hb hown hT hE hW cls_X5 (Or.inl (by decide)) (so_117 h0 g _) (by decide) rfl wq293 dX5_readNumber_24 ?_
      refine x_goi (x_runVN (As := []) hx hb hml hown hT hE hW hl.1 (Or.inl (by decide)) (so_1 h0 g _) rfl cf_X8_sign wq581 wq4 wn641 (c_X8_sign l D g T h0 s_4 hW.2.1 q4_0) ⟨rfl, rfl, ⟨by decide, by decide⟩, ⟨by decide, by decide⟩⟩ rfl rfl (Nat.le_of_ble_eq_true rfl) dX5_readNumber_27) hW (fun x20 s21 H locs rx20 hp22 hW => ?_)
      obtain ⟨es21, hp22⟩ := hp22
      subst es21
      have ghp22 := hp22
      refine x_iadd hx hb dX5_readNumber_30 ?_
      refine x_bipush hx hb dX5_readNumber_31 (by decide) ?_
      refine x_isub hx hb dX5_readNumber_33 ?_
      refine x_any (fun x23 rx23 => ?_)
      refine lv_istore_n (lv' := [(1, .int (xJ x23)), (0, .ref (h0 + 117)), (2, .int (xJ i2_4))]) hx hb dX5_readNumber_34 rfl hl (by decide) rfl (fun ls hl => ?_)
      refine x_aload_n hx hb hl 1 rfl dX5_readNumber_35 rfl ?_
      refine x_get (j := 0) (v := .ref (h0 + 1)) hx hb hown hT hE hW cls_X5 (Or.inl (by decide)) (so_117 h0 g _) (by decide) rfl wq293 dX5_readNumber_36 ?_
      refine lv_dup hx hb dX5_readNumber_39 rfl ?_
      refine x_getN (j := 3) (v := .int (xJ (s_4 1 3))) hx hb hown hT hE hW cls_X8 (Or.inl (by decide)) (so_1 h0 g _) (by decide) rfl wn201 dX5_readNumber_40 ?_
      refine x_rd hW (fun x24 ex24 rx24 => ?_)
      refine x_iconst hx hb dX5_readNumber_43 ?_
      refine x_iadd hx hb dX5_readNumber_44 ?_
      refine x_putN (j := 3) hx hb hown hT hE hW cls_X8 (by decide) (fun σ => so_1 h0 g σ) (by decide) (st_X8_3 h0 s_4 1 (x24 + 1)) (ln_X8_3 h0 _ _) wn201 rfl rfl rfl (by omega) dX5_readNumber_45 (fun H locs s25 es25 hW => ?_)
      have q26 : IC s25 := by rw [es25]; exact IC_1 q4_0 (by omega)
      have q27 : s25 1 1 = s0 1 1 := (show s25 1 1 = s_4 1 1 from by rw [es25, xU_j _ _ (by decide)]).trans q4_1
      have hF28 := hF_4.put es25 (by omega)
      refine x_iinc (lv' := [(2, .int (xJ (i2_4 + 1))), (1, .int (xJ x23)), (0, .ref (h0 + 117))]) hx hb hl 2 rfl dX5_readNumber_48 (by decide) rfl (fun ls hl => ?_)
      refine lv_goto (tgt := 4) hx hb dX5_readNumber_51 (by decide) ?_
      exact ih4 x23 (i2_4 + 1) s25 H locs ls rx23 (by omega) hF28 q26 q27 (by omega) (by omega) (by omega) hW (lv_sub hl [2, 1, 0] rfl)
  exact L4 ((5 + 1 - 0 : Int).toNat + 1) 0 0 s0 H locs ls (by decide) (by decide) hF p0 k1_1 (by omega) (by omega) (Nat.lt_succ_self _) hW (lv_sub hl [2, 1, 0] rfl)
set_option maxHeartbeats 4000000 in
set_option maxRecDepth 100000 in
theorem c_X5_readFactorL6 (l : Launch) (D : va_G) (g : xG) (T : Nat × Nat × Nat) (h0 : Nat) (s0 : xS) (hσ : xRR s0) (q : Int) (rq : xR q) (hq : q = 6) (p0 : IC s0) : Met l yX5_readFactor (xws yX5_readFactor cX5_readFactor 4 (some .boolean)) { frames := 3, cells := 0, slots := 0, locals := 62 } (xP [.ref (h0 + 117), .int (xJ q)] D g T h0 s0) (xQi D g h0 (fun r τ => xFr (fun k => k = 1 ∨ k = 118 ∨ k = 119 ∨ k = 120) s0 τ ∧ (((IC τ) ∧ (τ 1 1 = s0 1 1) ∧ True) ∧ (r = 0 ∨ r = 1)))) 0 0 (xA h0) := by
  refine x_met hσ (by decide) (Nat.le_of_ble_eq_true rfl) ?_
  intro p e s m args below meth c hx hb hr hml hown hT hlk hnm hE hW ls hl
  have hl : lv_has ls 4 [(0, .ref (h0 + 117)), (1, .int (xJ q))] := hl
  obtain ⟨Q, eQ⟩ : ∃ Q, Q = MQ below (xQi D g h0 (fun r τ => xFr (fun k => k = 1 ∨ k = 118 ∨ k = 119 ∨ k = 120) s0 τ ∧ (((IC τ) ∧ (τ 1 1 = s0 1 1) ∧ True) ∧ (r = 0 ∨ r = 1)))) args s 0 0 (xA h0) := ⟨_, rfl⟩
  rw [← eQ]
  generalize hHe : ([] : List Loc) = locs at hW ⊢
  obtain ⟨H, eH⟩ : ∃ H, H = s.heap := ⟨_, rfl⟩
  rw [← eH] at hW ⊢
  have hF : xFr (fun k => k = 1 ∨ k = 118 ∨ k = 119 ∨ k = 120) s0 s0 := xFr.rf
  have k1_1 : s0 1 1 = s0 1 1 := rfl
  refine x_aload_n hx hb hl 0 rfl dX5_readFactor_0 rfl ?_
  refine x_get (j := 0) (v := .ref (h0 + 1)) hx hb hown hT hE hW cls_X5 (Or.inl (by decide)) (so_117 h0 g _) (by decide) rfl wq293 dX5_readFactor_1 ?_
  refine x_goi (x_runVN (As := []) hx hb hml hown hT hE hW hl.1 (Or.inl (by decide)) (so_1 h0 g _) rfl cf_X8_isDigit wq664 wq19 wn662 (c_X8_isDigit l D g T h0 s0 hW.2.1 p0) ⟨rfl, rfl, ⟨by decide, by decide⟩, ⟨by decide, by decide⟩⟩ rfl rfl (Nat.le_of_ble_eq_true rfl) dX5_readFactor_4) hW (fun x1 s2 H locs rx1 hp3 hW => ?_)
  obtain ⟨es2, hp3⟩ := hp3
  subst es2
  have ghp3 := hp3
  refine x_if_eq (tgt := 15) hx hb rx1 dX5_readFactor_7 (by decide) (fun c4 => ?_) (fun c4 => ?_)
  · skip
    refine x_aload_n hx hb hl 0 rfl dX5_readFactor_15 rfl ?_
    refine x_get (j := 0) (v := .ref (h0 + 1)) hx hb hown hT hE hW cls_X5 (Or.inl (by decide)) (so_117 h0 g _) (by decide) rfl wq293 dX5_readFactor_16 ?_
    refine x_goi (x_runVN (As := []) hx hb hml hown hT hE hW hl.1 (Or.inl (by decide)) (so_1 h0 g _) rfl cf_X8_sign wq581 wq4 wn641 (c_X8_sign l D g T h0 s0 hW.2.1 p0) ⟨rfl, rfl, ⟨by decide, by decide⟩, ⟨by decide, by decide⟩⟩ rfl rfl (Nat.le_of_ble_eq_true rfl) dX5_readFactor_19) hW (fun x5 s6 H locs rx5 hp7 hW => ?_)
    obtain ⟨es6, hp7⟩ := hp7
    subst es6
    have ghp7 := hp7
    refine lv_istore_n (lv' := [(2, .int (xJ x5)), (0, .ref (h0 + 117)), (1, .int (xJ q))]) hx hb dX5_readFactor_22 rfl hl (by decide) rfl (fun ls hl => ?_)
    refine x_iload_n hx hb hl 0 rfl dX5_readFactor_23 rfl ?_
    refine x_bipush hx hb dX5_readFactor_24 (by decide) ?_
    refine x_icmp_ne (tgt := 92) hx hb rx5 (by decide) dX5_readFactor_26 (by decide) (fun c8 => ?_) (fun c8 => ?_)
    · skip
      refine x_iload_n hx hb hl 0 rfl dX5_readFactor_92 rfl ?_
      refine x_goi (x_runSN (As := [.int (xJ x5)]) hx hb hml hown hT hE hW hl.1 cf_X4_placeOfLetter wq676 wn675 (c_X4_placeOfLetter l D g T h0 s0 hW.2.1 x5 rx5) ⟨rfl, rfl, ⟨by decide, by decide⟩, ⟨by decide, by decide⟩⟩ rfl rfl (Nat.le_of_ble_eq_true rfl) dX5_readFactor_93) hW (fun x9 s10 H locs rx9 hp11 hW => ?_)
      obtain ⟨es10, hp11⟩ := hp11
      subst es10
      have ghp11 := hp11
      refine lv_istore_n (lv' := [(3, .int (xJ x9)), (2, .int (xJ x5)), (0, .ref (h0 + 117)), (1, .int (xJ q))]) hx hb dX5_readFactor_96 rfl hl (by decide) rfl (fun ls hl => ?_)
      refine x_iload_n hx hb hl 0 rfl dX5_readFactor_97 rfl ?_
      refine x_iconst hx hb dX5_readFactor_98 ?_
      refine x_icmp_ne (tgt := 118) hx hb rx9 (by decide) dX5_readFactor_99 (by decide) (fun c12 => ?_) (fun c12 => ?_)
      · skip
        refine x_aload_n hx hb hl 2 rfl dX5_readFactor_118 rfl ?_
        refine x_get (j := 0) (v := .ref (h0 + 1)) hx hb hown hT hE hW cls_X5 (Or.inl (by decide)) (so_117 h0 g _) (by decide) rfl wq293 dX5_readFactor_119 ?_
        refine lv_dup hx hb dX5_readFactor_122 rfl ?_
        refine x_getN (j := 3) (v := .int (xJ (s0 1 3))) hx hb hown hT hE hW cls_X8 (Or.inl (by decide)) (so_1 h0 g _) (by decide) rfl wn201 dX5_readFactor_123 ?_
        refine x_rd hW (fun x13 ex13 rx13 => ?_)
        refine x_iconst hx hb dX5_readFactor_126 ?_
        refine x_iadd hx hb dX5_readFactor_127 ?_
        refine x_putN (j := 3) hx hb hown hT hE hW cls_X8 (by decide) (fun σ => so_1 h0 g σ) (by decide) (st_X8_3 h0 s0 1 (x13 + 1)) (ln_X8_3 h0 _ _) wn201 rfl rfl rfl (by omega) dX5_readFactor_128 (fun H locs s14 es14 hW => ?_)
        have q15 : IC s14 := by rw [es14]; exact IC_1 p0 (by omega)
        have q16 : s14 1 1 = s0 1 1 := (show s14 1 1 = s0 1 1 from by rw [es14, xU_j _ _ (by decide)]).trans k1_1
        have hF17 := hF.put es14 (by omega)
        refine x_aload_n hx hb hl 2 rfl dX5_readFactor_131 rfl ?_
        refine x_get (j := 1) (v := .ref (h0 + 118)) hx hb hown hT hE hW cls_X5 (Or.inl (by decide)) (so_117 h0 g _) (by decide) rfl wq294 dX5_readFactor_132 ?_
        refine x_iconst hx hb dX5_readFactor_135 ?_
        refine x_iload_n hx hb hl 0 rfl dX5_readFactor_136 rfl ?_
        refine x_goi (x_runVN (As := [.int (xJ 2), .int (xJ x9)]) hx hb hml hown hT hE hW hl.1 (Or.inl (by decide)) (so_118 h0 g _) rfl cf_X4_put wq672 wq21 wn670 (c_X4_put l D g T h0 s14 hW.2.1 2 (by decide) x9 rx9 q15) ⟨rfl, rfl, ⟨by decide, by decide⟩, ⟨by decide, by decide⟩⟩ rfl rfl (Nat.le_of_ble_eq_true rfl) dX5_readFactor_137) hW (fun x18 s19 H locs rx18 hp20 hW => ?_)
        obtain ⟨fs19, hp20⟩ := hp20
        have hF21 := hF17.call fs19 (fun k h => by omega)
        have q22 : s19 1 1 = s0 1 1 := (congrFun (fs19 _ (by omega)) _).trans q16
        have ghp20 := hp20.2
        refine lv_pop hx hb dX5_readFactor_140 rfl ?_
        refine x_iconst hx hb dX5_readFactor_141 ?_
        rw [eQ]
        exact x_zret hx hb hr hlk hW (by omega) ⟨hF21, ⟨hp20.1.1, q22, trivial⟩, by omega⟩ dX5_readFactor_142
      refine x_aload_n hx hb hl 2 rfl dX5_readFactor_102 rfl ?_
      refine x_get (j := 0) (v := .ref (h0 + 1)) hx hb hown hT hE hW cls_X5 (Or.inl (by decide)) (so_117 h0 g _) (by decide) rfl wq293 dX5_readFactor_103 ?_
      refine x_iconst hx hb dX5_readFactor_106 ?_
      refine x_aload_n hx hb hl 2 rfl dX5_readFactor_107 rfl ?_
      refine x_get (j := 0) (v := .ref (h0 + 1)) hx hb hown hT hE hW cls_X5 (Or.inl (by decide)) (so_117 h0 g _) (by decide) rfl wq293 dX5_readFactor_108 ?_
      refine x_getN (j := 3) (v := .int (xJ (s0 1 3))) hx hb hown hT hE hW cls_X8 (Or.inl (by decide)) (so_1 h0 g _) (by decide) rfl wn201 dX5_readFactor_111 ?_
      refine x_rd hW (fun x23 ex23 rx23 => ?_)
      refine x_goi (x_runVN (As := [.int (xJ 1), .int (xJ x23)]) hx hb hml hown hT hE hW hl.1 (Or.inl (by decide)) (so_1 h0 g _) rfl cf_X8_fails wq588 wq5 wn645 (c_X8_fails l D g T h0 s0 hW.2.1 1 (by decide) x23 rx23 p0) ⟨rfl, rfl, ⟨by decide, by decide⟩, ⟨by decide, by decide⟩⟩ rfl rfl (Nat.le_of_ble_eq_true rfl) dX5_readFactor_114) hW (fun x24 s25 H locs rx24 hp26 hW => ?_)
      obtain ⟨fs25, hp26⟩ := hp26
      have hF27 := hF.call fs25 (fun k h => by omega)
      have ghp26 := hp26.2
      rw [eQ]
      exact x_zret hx hb hr hlk hW (by omega) ⟨hF27, ⟨hp26.1.1, (hp26.1.2.1.trans k1_1), trivial⟩, by omega⟩ dX5_readFactor_117
    refine x_iload_n hx hb hl 2 rfl dX5_readFactor_29 rfl ?_
    refine x_bipush hx hb dX5_readFactor_30 (by decide) ?_
    refine x_icmp_lt (tgt := 51) hx hb rq (by decide) dX5_readFactor_32 (by decide) (fun c28 => False.elim (by omega)) (fun c28 => ?_)
    refine x_aload_n hx hb hl 1 rfl dX5_readFactor_35 rfl ?_
    refine x_get (j := 0) (v := .ref (h0 + 1)) hx hb hown hT hE hW cls_X5 (Or.inl (by decide)) (so_117 h0 g _) (by decide) rfl wq293 dX5_readFactor_36 ?_
    refine x_iconst hx hb dX5_readFactor_39 ?_
    refine x_aload_n hx hb hl 1 rfl dX5_readFactor_40 rfl ?_
    refine x_get (j := 0) (v := .ref (h0 + 1)) hx hb hown hT hE hW cls_X5 (Or.inl (by decide)) (so_117 h0 g _) (by decide) rfl wq293 dX5_readFactor_41 ?_
    refine x_getN (j := 3) (v := .int (xJ (s0 1 3))) hx hb hown hT hE hW cls_X8 (Or.inl (by decide)) (so_1 h0 g _) (by decide) rfl wn201 dX5_readFactor_44 ?_
    refine x_rd hW (fun x29 ex29 rx29 => ?_)
    refine x_goi (x_runVN (As := [.int (xJ 5), .int (xJ x29)]) hx hb hml hown hT hE hW hl.1 (Or.inl (by decide)) (so_1 h0 g _) rfl cf_X8_fails wq588 wq5 wn645 (c_X8_fails l D g T h0 s0 hW.2.1 5 (by decide) x29 rx29 p0) ⟨rfl, rfl, ⟨by decide, by decide⟩, ⟨by decide, by decide⟩⟩ rfl rfl (Nat.le_of_ble_eq_true rfl) dX5_readFactor_47) hW (fun x30 s31 H locs rx30 hp32 hW => ?_)
    obtain ⟨fs31, hp32⟩ := hp32
    have hF33 := hF.call fs31 (fun k h => by omega)
    have ghp32 := hp32.2
    rw [eQ]
    exact x_zret hx hb hr hlk hW (by omega) ⟨hF33, ⟨hp32.1.1, (hp32.1.2.1.trans k1_1), trivial⟩, by omega⟩ dX5_readFactor_50
  refine x_aload_n hx hb hl 0 rfl dX5_readFactor_10 rfl ?_
  refine x_goi (x_runV (As := []) hx hb hml hown hT hE hW hl.1 (Or.inl (by decide)) (so_117 h0 g _) rfl cf_X5_readNumber wq668 wq20 wq666 (c_X5_readNumber l D g T h0 s0 hW.2.1 p0) ⟨rfl, rfl, ⟨by decide, by decide⟩, ⟨by decide, by decide⟩⟩ rfl rfl (Nat.le_of_ble_eq_true rfl) dX5_readFactor_11) hW (fun x34 s35 H locs rx34 hp36 hW => ?_)
  obtain ⟨fs35, hp36⟩ := hp36
  have hF37 := hF.call fs35 (fun k h => by omega)
  have ghp36 := hp36.2
  rw [eQ]
  exact x_zret hx hb hr hlk hW (by omega) ⟨hF37, ⟨hp36.1.1, (hp36.1.2.1.trans k1_1), trivial⟩, by omega⟩ dX5_readFactor_14
set_option maxHeartbeats 4000000 in
set_option maxRecDepth 100000 in
theorem c_X5_readTermL6 (l : Launch) (D : va_G) (g : xG) (T : Nat × Nat × Nat) (h0 : Nat) (s0 : xS) (hσ : xRR s0) (q : Int) (rq : xR q) (hq : q = 6) (p0 : IC s0) : Met l yX5_readTerm (xws yX5_readTerm cX5_readTerm 4 (some .boolean)) { frames := 4, cells := 0, slots := 0, locals := 85 } (xP [.ref (h0 + 117), .int (xJ q)] D g T h0 s0) (xQi D g h0 (fun r τ => xFr (fun k => k = 1 ∨ k = 118 ∨ k = 119 ∨ k = 120) s0 τ ∧ (((IC τ) ∧ (τ 1 1 = s0 1 1) ∧ True) ∧ (r = 0 ∨ r = 1)))) 0 0 (xA h0) := by
  refine x_met hσ (by decide) (Nat.le_of_ble_eq_true rfl) ?_
  intro p e s m args below meth c hx hb hr hml hown hT hlk hnm hE hW ls hl
  have hl : lv_has ls 4 [(0, .ref (h0 + 117)), (1, .int (xJ q))] := hl
  obtain ⟨Q, eQ⟩ : ∃ Q, Q = MQ below (xQi D g h0 (fun r τ => xFr (fun k => k = 1 ∨ k = 118 ∨ k = 119 ∨ k = 120) s0 τ ∧ (((IC τ) ∧ (τ 1 1 = s0 1 1) ∧ True) ∧ (r = 0 ∨ r = 1)))) args s 0 0 (xA h0) := ⟨_, rfl⟩
  rw [← eQ]
  generalize hHe : ([] : List Loc) = locs at hW ⊢
  obtain ⟨H, eH⟩ : ∃ H, H = s.heap := ⟨_, rfl⟩
  rw [← eH] at hW ⊢
  have hF : xFr (fun k => k = 1 ∨ k = 118 ∨ k = 119 ∨ k = 120) s0 s0 := xFr.rf
  have k1_1 : s0 1 1 = s0 1 1 := rfl
  refine x_aload_n hx hb hl 0 rfl dX5_readTerm_0 rfl ?_
  refine x_iload_n hx hb hl 1 rfl dX5_readTerm_1 rfl ?_
  refine x_goi (x_runV (As := [.int (xJ q)]) hx hb hml hown hT hE hW hl.1 (Or.inl (by decide)) (so_117 h0 g _) rfl cf_X5_readFactor wq660 wq18 wq658 (c_X5_readFactorL6 l D g T h0 s0 hW.2.1 q rq (by omega) p0) ⟨rfl, rfl, ⟨by decide, by decide⟩, ⟨by decide, by decide⟩⟩ rfl rfl (Nat.le_of_ble_eq_true rfl) dX5_readTerm_2) hW (fun x1 s2 H locs rx1 hp3 hW => ?_)
  obtain ⟨fs2, hp3⟩ := hp3
  have hF4 := hF.call fs2 (fun k h => by omega)
  have ghp3 := hp3.2
  refine x_if_ne (tgt := 10) hx hb rx1 dX5_readTerm_5 (by decide) (fun c5 => ?_) (fun c5 => ?_)
  · skip
    refine x_iconst hx hb dX5_readTerm_10 ?_
    refine lv_istore_n (lv' := [(2, .int (xJ 0)), (0, .ref (h0 + 117)), (1, .int (xJ q))]) hx hb dX5_readTerm_11 rfl hl (by decide) rfl (fun ls hl => ?_)
    have L12 : ∀ (fu : Nat) (i2_12 : Int) (s_12 : xS) (H : Heap) (locs : List Loc) (ls : Array Slot), (xR i2_12) → (xFr (fun k => k = 1 ∨ k = 118 ∨ k = 119 ∨ k = 120) s0 s_12) → (IC s_12) → (s_12 1 1 = s0 1 1) → (0 ≤ i2_12) → (i2_12 ≤ 300) → (300 + 1 - i2_12).toNat < fu → xW D g h0 s H locs s_12 → lv_has ls 4 [(0, .ref (h0 + 117)), (1, .int (xJ q)), (2, .int (xJ i2_12))] → W p l e { frames := 4, cells := 0, slots := 0, locals := 85 } s m args below meth c H locs 0 0 Q (F0 m 12 ls []) := by
      intro fu
      induction fu with
      | zero => intro i2_12 s_12 H locs ls ri2_12 hF_12 q12_0 q12_1 v12_0 v12_1 hm; exact absurd hm (Nat.not_lt_zero _)
      | succ fu ih12 =>
        intro i2_12 s_12 H locs ls ri2_12 hF_12 q12_0 q12_1 v12_0 v12_1 hm hW hl
        refine x_iload_n hx hb hl 2 rfl dX5_readTerm_12 rfl ?_
        refine x_sipush hx hb dX5_readTerm_13 (by decide) ?_
        refine x_icmp_ge (tgt := 86) hx hb ri2_12 (by decide) dX5_readTerm_16 (by decide) (fun c6 => ?_) (fun c6 => ?_)
        · skip
          refine x_iconst hx hb dX5_readTerm_86 ?_
          rw [eQ]
          exact x_zret hx hb hr hlk hW (by omega) ⟨hF_12, ⟨q12_0, q12_1, trivial⟩, by omega⟩ dX5_readTerm_87
        refine x_aload_n hx hb hl 0 rfl dX5_readTerm_19 rfl ?_
        refine x_get (j := 0) (v := .ref (h0 + 1)) hx hb hown hT hE hW cls_X5 (Or.inl (by decide)) (so_117 h0 g _) (by decide) rfl wq293 dX5_readTerm_20 ?_
        refine x_goi (x_runVN (As := []) hx hb hml hown hT hE hW hl.1 (Or.inl (by decide)) (so_1 h0 g _) rfl cf_X8_sign wq581 wq4 wn641 (c_X8_sign l D g T h0 s_12 hW.2.1 q12_0) ⟨rfl, rfl, ⟨by decide, by decide⟩, ⟨by decide, by decide⟩⟩ rfl rfl (Nat.le_of_ble_eq_true rfl) dX5_readTerm_23) hW (fun x7 s8 H locs rx7 hp9 hW => ?_)
        obtain ⟨es8, hp9⟩ := hp9
        subst es8
        have ghp9 := hp9
        refine lv_istore_n (lv' := [(3, .int (xJ x7)), (0, .ref (h0 + 117)), (1, .int (xJ q)), (2, .int (xJ i2_12))]) hx hb dX5_readTerm_26 rfl hl (by decide) rfl (fun ls hl => ?_)
        refine x_iload_n hx hb hl 0 rfl dX5_readTerm_27 rfl ?_
        refine x_bipush hx hb dX5_readTerm_28 (by decide) ?_
        have J47 : ∀ (ls : Array Slot), (x7 ≠ -1) → lv_has ls 4 [(0, .ref (h0 + 117)), (1, .int (xJ q)), (2, .int (xJ i2_12)), (3, .int (xJ x7))] → W p l e { frames := 4, cells := 0, slots := 0, locals := 85 } s m args below meth c H locs 0 0 Q (F0 m 47 ls []) := by
          intro ls v47_0  hl
          refine x_aload_n hx hb hl 0 rfl dX5_readTerm_47 rfl ?_
          refine x_get (j := 0) (v := .ref (h0 + 1)) hx hb hown hT hE hW cls_X5 (Or.inl (by decide)) (so_117 h0 g _) (by decide) rfl wq293 dX5_readTerm_48 ?_
          refine lv_dup hx hb dX5_readTerm_51 rfl ?_
          refine x_getN (j := 3) (v := .int (xJ (s_12 1 3))) hx hb hown hT hE hW cls_X8 (Or.inl (by decide)) (so_1 h0 g _) (by decide) rfl wn201 dX5_readTerm_52 ?_
          refine x_rd hW (fun x10 ex10 rx10 => ?_)
          refine x_iconst hx hb dX5_readTerm_55 ?_
          refine x_iadd hx hb dX5_readTerm_56 ?_
          refine x_putN (j := 3) hx hb hown hT hE hW cls_X8 (by decide) (fun σ => so_1 h0 g σ) (by decide) (st_X8_3 h0 s_12 1 (x10 + 1)) (ln_X8_3 h0 _ _) wn201 rfl rfl rfl (by omega) dX5_readTerm_57 (fun H locs s11 es11 hW => ?_)
          have q12 : IC s11 := by rw [es11]; exact IC_1 q12_0 (by omega)
          have q13 : s11 1 1 = s0 1 1 := (show s11 1 1 = s_12 1 1 from by rw [es11, xU_j _ _ (by decide)]).trans q12_1
          have hF14 := hF_12.put es11 (by omega)
          refine x_aload_n hx hb hl 0 rfl dX5_readTerm_60 rfl ?_
          refine x_iload_n hx hb hl 1 rfl dX5_readTerm_61 rfl ?_
          refine x_goi (x_runV (As := [.int (xJ q)]) hx hb hml hown hT hE hW hl.1 (Or.inl (by decide)) (so_117 h0 g _) rfl cf_X5_readFactor wq660 wq18 wq658 (c_X5_readFactorL6 l D g T h0 s11 hW.2.1 q rq (by omega) q12) ⟨rfl, rfl, ⟨by decide, by decide⟩, ⟨by decide, by decide⟩⟩ rfl rfl (Nat.le_of_ble_eq_true rfl) dX5_readTerm_62) hW (fun x15 s16 H locs rx15 hp17 hW => ?_)
          obtain ⟨fs16, hp17⟩ := hp17
          have hF18 := hF14.call fs16 (fun k h => by omega)
          have ghp17 := hp17.2
          refine x_if_ne (tgt := 70) hx hb rx15 dX5_readTerm_65 (by decide) (fun c19 => ?_) (fun c19 => ?_)
          · skip
            refine x_aload_n hx hb hl 0 rfl dX5_readTerm_70 rfl ?_
            refine x_get (j := 1) (v := .ref (h0 + 118)) hx hb hown hT hE hW cls_X5 (Or.inl (by decide)) (so_117 h0 g _) (by decide) rfl wq294 dX5_readTerm_71 ?_
            refine x_iload_n hx hb hl 3 rfl dX5_readTerm_74 rfl ?_
            refine x_iconst hx hb dX5_readTerm_75 ?_
            refine x_goi (x_runVN (As := [.int (xJ x7), .int (xJ 0)]) hx hb hml hown hT hE hW hl.1 (Or.inl (by decide)) (so_118 h0 g _) rfl cf_X4_put wq672 wq21 wn670 (c_X4_put l D g T h0 s16 hW.2.1 x7 rx7 0 (by decide) hp17.1.1) ⟨rfl, rfl, ⟨by decide, by decide⟩, ⟨by decide, by decide⟩⟩ rfl rfl (Nat.le_of_ble_eq_true rfl) dX5_readTerm_76) hW (fun x20 s21 H locs rx20 hp22 hW => ?_)
            obtain ⟨fs21, hp22⟩ := hp22
            have hF23 := hF18.call fs21 (fun k h => by omega)
            have q24 : s21 1 1 = s0 1 1 := (congrFun (fs21 _ (by omega)) _).trans (hp17.1.2.1.trans q13)
            have ghp22 := hp22.2
            refine lv_pop hx hb dX5_readTerm_79 rfl ?_
            refine x_iinc (lv' := [(2, .int (xJ (i2_12 + 1))), (0, .ref (h0 + 117)), (1, .int (xJ q)), (3, .int (xJ x7))]) hx hb hl 2 rfl dX5_readTerm_80 (by decide) rfl (fun ls hl => ?_)
            refine lv_goto (tgt := 12) hx hb dX5_readTerm_83 (by decide) ?_
            exact ih12 (i2_12 + 1) s21 H locs ls (by omega) hF23 hp22.1.1 q24 (by omega) (by omega) (by omega) hW (lv_sub hl [1, 2, 0] rfl)
          refine x_iconst hx hb dX5_readTerm_68 ?_
          rw [eQ]
          exact x_zret hx hb hr hlk hW (by omega) ⟨hF18, ⟨hp17.1.1, (hp17.1.2.1.trans q13), trivial⟩, by omega⟩ dX5_readTerm_69
        refine x_icmp_eq (tgt := 47) hx hb rx7 (by decide) dX5_readTerm_30 (by decide) (fun c25 => ?_) (fun c25 => ?_)
        · skip
          exact J47 ls (by omega)  (lv_sub hl [1, 2, 3, 0] rfl)
        refine x_iload_n hx hb hl 0 rfl dX5_readTerm_33 rfl ?_
        refine x_bipush hx hb dX5_readTerm_34 (by decide) ?_
        refine x_icmp_eq (tgt := 47) hx hb rx7 (by decide) dX5_readTerm_36 (by decide) (fun c26 => ?_) (fun c26 => ?_)
        · skip
          exact J47 ls (by omega)  (lv_sub hl [1, 2, 3, 0] rfl)
        refine x_iload_n hx hb hl 0 rfl dX5_readTerm_39 rfl ?_
        refine x_bipush hx hb dX5_readTerm_40 (by decide) ?_
        refine x_icmp_eq (tgt := 47) hx hb rx7 (by decide) dX5_readTerm_42 (by decide) (fun c27 => ?_) (fun c27 => ?_)
        · skip
          exact J47 ls (by omega)  (lv_sub hl [1, 2, 3, 0] rfl)
        refine x_iconst hx hb dX5_readTerm_45 ?_
        rw [eQ]
        exact x_zret hx hb hr hlk hW (by omega) ⟨hF_12, ⟨q12_0, q12_1, trivial⟩, by omega⟩ dX5_readTerm_46
    exact L12 ((300 + 1 - 0 : Int).toNat + 1) 0 s2 H locs ls (by decide) hF4 hp3.1.1 (hp3.1.2.1.trans k1_1) (by omega) (by omega) (Nat.lt_succ_self _) hW (lv_sub hl [1, 2, 0] rfl)
  refine x_iconst hx hb dX5_readTerm_8 ?_
  rw [eQ]
  exact x_zret hx hb hr hlk hW (by omega) ⟨hF4, ⟨hp3.1.1, (hp3.1.2.1.trans k1_1), trivial⟩, by omega⟩ dX5_readTerm_9
set_option maxHeartbeats 4000000 in
set_option maxRecDepth 100000 in
theorem c_X5_readSumL6 (l : Launch) (D : va_G) (g : xG) (T : Nat × Nat × Nat) (h0 : Nat) (s0 : xS) (hσ : xRR s0) (q : Int) (rq : xR q) (hq : q = 6) (p0 : IC s0) : Met l yX5_readSum (xws yX5_readSum cX5_readSum 4 (some .boolean)) { frames := 5, cells := 0, slots := 0, locals := 108 } (xP [.ref (h0 + 117), .int (xJ q)] D g T h0 s0) (xQi D g h0 (fun r τ => xFr (fun k => k = 1 ∨ k = 118 ∨ k = 119 ∨ k = 120) s0 τ ∧ (((IC τ) ∧ (τ 1 1 = s0 1 1) ∧ True) ∧ (r = 0 ∨ r = 1)))) 0 0 (xA h0) := by
  refine x_met hσ (by decide) (Nat.le_of_ble_eq_true rfl) ?_
  intro p e s m args below meth c hx hb hr hml hown hT hlk hnm hE hW ls hl
  have hl : lv_has ls 4 [(0, .ref (h0 + 117)), (1, .int (xJ q))] := hl
  obtain ⟨Q, eQ⟩ : ∃ Q, Q = MQ below (xQi D g h0 (fun r τ => xFr (fun k => k = 1 ∨ k = 118 ∨ k = 119 ∨ k = 120) s0 τ ∧ (((IC τ) ∧ (τ 1 1 = s0 1 1) ∧ True) ∧ (r = 0 ∨ r = 1)))) args s 0 0 (xA h0) := ⟨_, rfl⟩
  rw [← eQ]
  generalize hHe : ([] : List Loc) = locs at hW ⊢
  obtain ⟨H, eH⟩ : ∃ H, H = s.heap := ⟨_, rfl⟩
  rw [← eH] at hW ⊢
  have hF : xFr (fun k => k = 1 ∨ k = 118 ∨ k = 119 ∨ k = 120) s0 s0 := xFr.rf
  have k1_1 : s0 1 1 = s0 1 1 := rfl
  refine x_aload_n hx hb hl 0 rfl dX5_readSum_0 rfl ?_
  refine x_iload_n hx hb hl 1 rfl dX5_readSum_1 rfl ?_
  refine x_goi (x_runV (As := [.int (xJ q)]) hx hb hml hown hT hE hW hl.1 (Or.inl (by decide)) (so_117 h0 g _) rfl cf_X5_readTerm wq656 wq17 wq654 (c_X5_readTermL6 l D g T h0 s0 hW.2.1 q rq (by omega) p0) ⟨rfl, rfl, ⟨by decide, by decide⟩, ⟨by decide, by decide⟩⟩ rfl rfl (Nat.le_of_ble_eq_true rfl) dX5_readSum_2) hW (fun x1 s2 H locs rx1 hp3 hW => ?_)
  obtain ⟨fs2, hp3⟩ := hp3
  have hF4 := hF.call fs2 (fun k h => by omega)
  have ghp3 := hp3.2
  refine x_if_ne (tgt := 10) hx hb rx1 dX5_readSum_5 (by decide) (fun c5 => ?_) (fun c5 => ?_)
  · skip
    refine x_iconst hx hb dX5_readSum_10 ?_
    refine lv_istore_n (lv' := [(2, .int (xJ 0)), (0, .ref (h0 + 117)), (1, .int (xJ q))]) hx hb dX5_readSum_11 rfl hl (by decide) rfl (fun ls hl => ?_)
    have L12 : ∀ (fu : Nat) (i2_12 : Int) (s_12 : xS) (H : Heap) (locs : List Loc) (ls : Array Slot), (xR i2_12) → (xFr (fun k => k = 1 ∨ k = 118 ∨ k = 119 ∨ k = 120) s0 s_12) → (IC s_12) → (s_12 1 1 = s0 1 1) → (0 ≤ i2_12) → (i2_12 ≤ 300) → (300 + 1 - i2_12).toNat < fu → xW D g h0 s H locs s_12 → lv_has ls 4 [(0, .ref (h0 + 117)), (1, .int (xJ q)), (2, .int (xJ i2_12))] → W p l e { frames := 5, cells := 0, slots := 0, locals := 108 } s m args below meth c H locs 0 0 Q (F0 m 12 ls []) := by
      intro fu
      induction fu with
      | zero => intro i2_12 s_12 H locs ls ri2_12 hF_12 q12_0 q12_1 v12_0 v12_1 hm; exact absurd hm (Nat.not_lt_zero _)
      | succ fu ih12 =>
        intro i2_12 s_12 H locs ls ri2_12 hF_12 q12_0 q12_1 v12_0 v12_1 hm hW hl
        refine x_iload_n hx hb hl 2 rfl dX5_readSum_12 rfl ?_
        refine x_sipush hx hb dX5_readSum_13 (by decide) ?_
        refine x_icmp_ge (tgt := 80) hx hb ri2_12 (by decide) dX5_readSum_16 (by decide) (fun c6 => ?_) (fun c6 => ?_)
        · skip
          refine x_iconst hx hb dX5_readSum_80 ?_
          rw [eQ]
          exact x_zret hx hb hr hlk hW (by omega) ⟨hF_12, ⟨q12_0, q12_1, trivial⟩, by omega⟩ dX5_readSum_81
        refine x_aload_n hx hb hl 0 rfl dX5_readSum_19 rfl ?_
        refine x_get (j := 0) (v := .ref (h0 + 1)) hx hb hown hT hE hW cls_X5 (Or.inl (by decide)) (so_117 h0 g _) (by decide) rfl wq293 dX5_readSum_20 ?_
        refine x_goi (x_runVN (As := []) hx hb hml hown hT hE hW hl.1 (Or.inl (by decide)) (so_1 h0 g _) rfl cf_X8_sign wq581 wq4 wn641 (c_X8_sign l D g T h0 s_12 hW.2.1 q12_0) ⟨rfl, rfl, ⟨by decide, by decide⟩, ⟨by decide, by decide⟩⟩ rfl rfl (Nat.le_of_ble_eq_true rfl) dX5_readSum_23) hW (fun x7 s8 H locs rx7 hp9 hW => ?_)
        obtain ⟨es8, hp9⟩ := hp9
        subst es8
        have ghp9 := hp9
        refine lv_istore_n (lv' := [(3, .int (xJ x7)), (0, .ref (h0 + 117)), (1, .int (xJ q)), (2, .int (xJ i2_12))]) hx hb dX5_readSum_26 rfl hl (by decide) rfl (fun ls hl => ?_)
        refine x_iload_n hx hb hl 0 rfl dX5_readSum_27 rfl ?_
        refine x_bipush hx hb dX5_readSum_28 (by decide) ?_
        have J41 : ∀ (ls : Array Slot), (x7 ≠ -1) → lv_has ls 4 [(0, .ref (h0 + 117)), (1, .int (xJ q)), (2, .int (xJ i2_12)), (3, .int (xJ x7))] → W p l e { frames := 5, cells := 0, slots := 0, locals := 108 } s m args below meth c H locs 0 0 Q (F0 m 41 ls []) := by
          intro ls v41_0  hl
          refine x_aload_n hx hb hl 0 rfl dX5_readSum_41 rfl ?_
          refine x_get (j := 0) (v := .ref (h0 + 1)) hx hb hown hT hE hW cls_X5 (Or.inl (by decide)) (so_117 h0 g _) (by decide) rfl wq293 dX5_readSum_42 ?_
          refine lv_dup hx hb dX5_readSum_45 rfl ?_
          refine x_getN (j := 3) (v := .int (xJ (s_12 1 3))) hx hb hown hT hE hW cls_X8 (Or.inl (by decide)) (so_1 h0 g _) (by decide) rfl wn201 dX5_readSum_46 ?_
          refine x_rd hW (fun x10 ex10 rx10 => ?_)
          refine x_iconst hx hb dX5_readSum_49 ?_
          refine x_iadd hx hb dX5_readSum_50 ?_
          refine x_putN (j := 3) hx hb hown hT hE hW cls_X8 (by decide) (fun σ => so_1 h0 g σ) (by decide) (st_X8_3 h0 s_12 1 (x10 + 1)) (ln_X8_3 h0 _ _) wn201 rfl rfl rfl (by omega) dX5_readSum_51 (fun H locs s11 es11 hW => ?_)
          have q12 : IC s11 := by rw [es11]; exact IC_1 q12_0 (by omega)
          have q13 : s11 1 1 = s0 1 1 := (show s11 1 1 = s_12 1 1 from by rw [es11, xU_j _ _ (by decide)]).trans q12_1
          have hF14 := hF_12.put es11 (by omega)
          refine x_aload_n hx hb hl 0 rfl dX5_readSum_54 rfl ?_
          refine x_iload_n hx hb hl 1 rfl dX5_readSum_55 rfl ?_
          refine x_goi (x_runV (As := [.int (xJ q)]) hx hb hml hown hT hE hW hl.1 (Or.inl (by decide)) (so_117 h0 g _) rfl cf_X5_readTerm wq656 wq17 wq654 (c_X5_readTermL6 l D g T h0 s11 hW.2.1 q rq (by omega) q12) ⟨rfl, rfl, ⟨by decide, by decide⟩, ⟨by decide, by decide⟩⟩ rfl rfl (Nat.le_of_ble_eq_true rfl) dX5_readSum_56) hW (fun x15 s16 H locs rx15 hp17 hW => ?_)
          obtain ⟨fs16, hp17⟩ := hp17
          have hF18 := hF14.call fs16 (fun k h => by omega)
          have ghp17 := hp17.2
          refine x_if_ne (tgt := 64) hx hb rx15 dX5_readSum_59 (by decide) (fun c19 => ?_) (fun c19 => ?_)
          · skip
            refine x_aload_n hx hb hl 0 rfl dX5_readSum_64 rfl ?_
            refine x_get (j := 1) (v := .ref (h0 + 118)) hx hb hown hT hE hW cls_X5 (Or.inl (by decide)) (so_117 h0 g _) (by decide) rfl wq294 dX5_readSum_65 ?_
            refine x_iload_n hx hb hl 3 rfl dX5_readSum_68 rfl ?_
            refine x_iconst hx hb dX5_readSum_69 ?_
            refine x_goi (x_runVN (As := [.int (xJ x7), .int (xJ 0)]) hx hb hml hown hT hE hW hl.1 (Or.inl (by decide)) (so_118 h0 g _) rfl cf_X4_put wq672 wq21 wn670 (c_X4_put l D g T h0 s16 hW.2.1 x7 rx7 0 (by decide) hp17.1.1) ⟨rfl, rfl, ⟨by decide, by decide⟩, ⟨by decide, by decide⟩⟩ rfl rfl (Nat.le_of_ble_eq_true rfl) dX5_readSum_70) hW (fun x20 s21 H locs rx20 hp22 hW => ?_)
            obtain ⟨fs21, hp22⟩ := hp22
            have hF23 := hF18.call fs21 (fun k h => by omega)
            have q24 : s21 1 1 = s0 1 1 := (congrFun (fs21 _ (by omega)) _).trans (hp17.1.2.1.trans q13)
            have ghp22 := hp22.2
            refine lv_pop hx hb dX5_readSum_73 rfl ?_
            refine x_iinc (lv' := [(2, .int (xJ (i2_12 + 1))), (0, .ref (h0 + 117)), (1, .int (xJ q)), (3, .int (xJ x7))]) hx hb hl 2 rfl dX5_readSum_74 (by decide) rfl (fun ls hl => ?_)
            refine lv_goto (tgt := 12) hx hb dX5_readSum_77 (by decide) ?_
            exact ih12 (i2_12 + 1) s21 H locs ls (by omega) hF23 hp22.1.1 q24 (by omega) (by omega) (by omega) hW (lv_sub hl [1, 2, 0] rfl)
          refine x_iconst hx hb dX5_readSum_62 ?_
          rw [eQ]
          exact x_zret hx hb hr hlk hW (by omega) ⟨hF18, ⟨hp17.1.1, (hp17.1.2.1.trans q13), trivial⟩, by omega⟩ dX5_readSum_63
        refine x_icmp_eq (tgt := 41) hx hb rx7 (by decide) dX5_readSum_30 (by decide) (fun c25 => ?_) (fun c25 => ?_)
        · skip
          exact J41 ls (by omega)  (lv_sub hl [1, 2, 3, 0] rfl)
        refine x_iload_n hx hb hl 0 rfl dX5_readSum_33 rfl ?_
        refine x_bipush hx hb dX5_readSum_34 (by decide) ?_
        refine x_icmp_eq (tgt := 41) hx hb rx7 (by decide) dX5_readSum_36 (by decide) (fun c26 => ?_) (fun c26 => ?_)
        · skip
          exact J41 ls (by omega)  (lv_sub hl [1, 2, 3, 0] rfl)
        refine x_iconst hx hb dX5_readSum_39 ?_
        rw [eQ]
        exact x_zret hx hb hr hlk hW (by omega) ⟨hF_12, ⟨q12_0, q12_1, trivial⟩, by omega⟩ dX5_readSum_40
    exact L12 ((300 + 1 - 0 : Int).toNat + 1) 0 s2 H locs ls (by decide) hF4 hp3.1.1 (hp3.1.2.1.trans k1_1) (by omega) (by omega) (Nat.lt_succ_self _) hW (lv_sub hl [1, 2, 0] rfl)
  refine x_iconst hx hb dX5_readSum_8 ?_
  rw [eQ]
  exact x_zret hx hb hr hlk hW (by omega) ⟨hF4, ⟨hp3.1.1, (hp3.1.2.1.trans k1_1), trivial⟩, by omega⟩ dX5_readSum_9
set_option maxHeartbeats 4000000 in
set_option maxRecDepth 100000 in
theorem c_X5_readFactorL5 (l : Launch) (D : va_G) (g : xG) (T : Nat × Nat × Nat) (h0 : Nat) (s0 : xS) (hσ : xRR s0) (q : Int) (rq : xR q) (hq : q = 5) (p0 : IC s0) : Met l yX5_readFactor (xws yX5_readFactor cX5_readFactor 4 (some .boolean)) { frames := 6, cells := 0, slots := 0, locals := 131 } (xP [.ref (h0 + 117), .int (xJ q)] D g T h0 s0) (xQi D g h0 (fun r τ => xFr (fun k => k = 1 ∨ k = 118 ∨ k = 119 ∨ k = 120) s0 τ ∧ (((IC τ) ∧ (τ 1 1 = s0 1 1) ∧ True) ∧ (r = 0 ∨ r = 1)))) 0 0 (xA h0) := by
  refine x_met hσ (by decide) (Nat.le_of_ble_eq_true rfl) ?_
  intro p e s m args below meth c hx hb hr hml hown hT hlk hnm hE hW ls hl
  have hl : lv_has ls 4 [(0, .ref (h0 + 117)), (1, .int (xJ q))] := hl
  obtain ⟨Q, eQ⟩ : ∃ Q, Q = MQ below (xQi D g h0 (fun r τ => xFr (fun k => k = 1 ∨ k = 118 ∨ k = 119 ∨ k = 120) s0 τ ∧ (((IC τ) ∧ (τ 1 1 = s0 1 1) ∧ True) ∧ (r = 0 ∨ r = 1)))) args s 0 0 (xA h0) := ⟨_, rfl⟩
  rw [← eQ]
  generalize hHe : ([] : List Loc) = locs at hW ⊢
  obtain ⟨H, eH⟩ : ∃ H, H = s.heap := ⟨_, rfl⟩
  rw [← eH] at hW ⊢
  have hF : xFr (fun k => k = 1 ∨ k = 118 ∨ k = 119 ∨ k = 120) s0 s0 := xFr.rf
  have k1_1 : s0 1 1 = s0 1 1 := rfl
  refine x_aload_n hx hb hl 0 rfl dX5_readFactor_0 rfl ?_
  refine x_get (j := 0) (v := .ref (h0 + 1)) hx hb hown hT hE hW cls_X5 (Or.inl (by decide)) (so_117 h0 g _) (by decide) rfl wq293 dX5_readFactor_1 ?_
  refine x_goi (x_runVN (As := []) hx hb hml hown hT hE hW hl.1 (Or.inl (by decide)) (so_1 h0 g _) rfl cf_X8_isDigit wq664 wq19 wn662 (c_X8_isDigit l D g T h0 s0 hW.2.1 p0) ⟨rfl, rfl, ⟨by decide, by decide⟩, ⟨by decide, by decide⟩⟩ rfl rfl (Nat.le_of_ble_eq_true rfl) dX5_readFactor_4) hW (fun x1 s2 H locs rx1 hp3 hW => ?_)
  obtain ⟨es2, hp3⟩ := hp3
  subst es2
  have ghp3 := hp3
  refine x_if_eq (tgt := 15) hx hb rx1 dX5_readFactor_7 (by decide) (fun c4 => ?_) (fun c4 => ?_)
  · skip
    refine x_aload_n hx hb hl 0 rfl dX5_readFactor_15 rfl ?_
    refine x_get (j := 0) (v := .ref (h0 + 1)) hx hb hown hT hE hW cls_X5 (Or.inl (by decide)) (so_117 h0 g _) (by decide) rfl wq293 dX5_readFactor_16 ?_
    refine x_goi (x_runVN (As := []) hx hb hml hown hT hE hW hl.1 (Or.inl (by decide)) (so_1 h0 g _) rfl cf_X8_sign wq581 wq4 wn641 (c_X8_sign l D g T h0 s0 hW.2.1 p0) ⟨rfl, rfl, ⟨by decide, by decide⟩, ⟨by decide, by decide⟩⟩ rfl rfl (Nat.le_of_ble_eq_true rfl) dX5_readFactor_19) hW (fun x5 s6 H locs rx5 hp7 hW => ?_)
    obtain ⟨es6, hp7⟩ := hp7
    subst es6
    have ghp7 := hp7
    refine lv_istore_n (lv' := [(2, .int (xJ x5)), (0, .ref (h0 + 117)), (1, .int (xJ q))]) hx hb dX5_readFactor_22 rfl hl (by decide) rfl (fun ls hl => ?_)
    refine x_iload_n hx hb hl 0 rfl dX5_readFactor_23 rfl ?_
    refine x_bipush hx hb dX5_readFactor_24 (by decide) ?_
    refine x_icmp_ne (tgt := 92) hx hb rx5 (by decide) dX5_readFactor_26 (by decide) (fun c8 => ?_) (fun c8 => ?_)
    · skip
      refine x_iload_n hx hb hl 0 rfl dX5_readFactor_92 rfl ?_
      refine x_goi (x_runSN (As := [.int (xJ x5)]) hx hb hml hown hT hE hW hl.1 cf_X4_placeOfLetter wq676 wn675 (c_X4_placeOfLetter l D g T h0 s0 hW.2.1 x5 rx5) ⟨rfl, rfl, ⟨by decide, by decide⟩, ⟨by decide, by decide⟩⟩ rfl rfl (Nat.le_of_ble_eq_true rfl) dX5_readFactor_93) hW (fun x9 s10 H locs rx9 hp11 hW => ?_)
      obtain ⟨es10, hp11⟩ := hp11
      subst es10
      have ghp11 := hp11
      refine lv_istore_n (lv' := [(3, .int (xJ x9)), (2, .int (xJ x5)), (0, .ref (h0 + 117)), (1, .int (xJ q))]) hx hb dX5_readFactor_96 rfl hl (by decide) rfl (fun ls hl => ?_)
      refine x_iload_n hx hb hl 0 rfl dX5_readFactor_97 rfl ?_
      refine x_iconst hx hb dX5_readFactor_98 ?_
      refine x_icmp_ne (tgt := 118) hx hb rx9 (by decide) dX5_readFactor_99 (by decide) (fun c12 => ?_) (fun c12 => ?_)
      · skip
        refine x_aload_n hx hb hl 2 rfl dX5_readFactor_118 rfl ?_
        refine x_get (j := 0) (v := .ref (h0 + 1)) hx hb hown hT hE hW cls_X5 (Or.inl (by decide)) (so_117 h0 g _) (by decide) rfl wq293 dX5_readFactor_119 ?_
        refine lv_dup hx hb dX5_readFactor_122 rfl ?_
        refine x_getN (j := 3) (v := .int (xJ (s0 1 3))) hx hb hown hT hE hW cls_X8 (Or.inl (by decide)) (so_1 h0 g _) (by decide) rfl wn201 dX5_readFactor_123 ?_
        refine x_rd hW (fun x13 ex13 rx13 => ?_)
        refine x_iconst hx hb dX5_readFactor_126 ?_
        refine x_iadd hx hb dX5_readFactor_127 ?_
        refine x_putN (j := 3) hx hb hown hT hE hW cls_X8 (by decide) (fun σ => so_1 h0 g σ) (by decide) (st_X8_3 h0 s0 1 (x13 + 1)) (ln_X8_3 h0 _ _) wn201 rfl rfl rfl (by omega) dX5_readFactor_128 (fun H locs s14 es14 hW => ?_)
        have q15 : IC s14 := by rw [es14]; exact IC_1 p0 (by omega)
        have q16 : s14 1 1 = s0 1 1 := (show s14 1 1 = s0 1 1 from by rw [es14, xU_j _ _ (by decide)]).trans k1_1
        have hF17 := hF.put es14 (by omega)
        refine x_aload_n hx hb hl 2 rfl dX5_readFactor_131 rfl ?_
        refine x_get (j := 1) (v := .ref (h0 + 118)) hx hb hown hT hE hW cls_X5 (Or.inl (by decide)) (so_117 h0 g _) (by decide) rfl wq294 dX5_readFactor_132 ?_
        refine x_iconst hx hb dX5_readFactor_135 ?_
        refine x_iload_n hx hb hl 0 rfl dX5_readFactor_136 rfl ?_
        refine x_goi (x_runVN (As := [.int (xJ 2), .int (xJ x9)]) hx hb hml hown hT hE hW hl.1 (Or.inl (by decide)) (so_118 h0 g _) rfl cf_X4_put wq672 wq21 wn670 (c_X4_put l D g T h0 s14 hW.2.1 2 (by decide) x9 rx9 q15) ⟨rfl, rfl, ⟨by decide, by decide⟩, ⟨by decide, by decide⟩⟩ rfl rfl (Nat.le_of_ble_eq_true rfl) dX5_readFactor_137) hW (fun x18 s19 H locs rx18 hp20 hW => ?_)
        obtain ⟨fs19, hp20⟩ := hp20
        have hF21 := hF17.call fs19 (fun k h => by omega)
        have q22 : s19 1 1 = s0 1 1 := (congrFun (fs19 _ (by omega)) _).trans q16
        have ghp20 := hp20.2
        refine lv_pop hx hb dX5_readFactor_140 rfl ?_
        refine x_iconst hx hb dX5_readFactor_141 ?_
        rw [eQ]
        exact x_zret hx hb hr hlk hW (by omega) ⟨hF21, ⟨hp20.1.1, q22, trivial⟩, by omega⟩ dX5_readFactor_142
      refine x_aload_n hx hb hl 2 rfl dX5_readFactor_102 rfl ?_
      refine x_get (j := 0) (v := .ref (h0 + 1)) hx hb hown hT hE hW cls_X5 (Or.inl (by decide)) (so_117 h0 g _) (by decide) rfl wq293 dX5_readFactor_103 ?_
      refine x_iconst hx hb dX5_readFactor_106 ?_
      refine x_aload_n hx hb hl 2 rfl dX5_readFactor_107 rfl ?_
      refine x_get (j := 0) (v := .ref (h0 + 1)) hx hb hown hT hE hW cls_X5 (Or.inl (by decide)) (so_117 h0 g _) (by decide) rfl wq293 dX5_readFactor_108 ?_
      refine x_getN (j := 3) (v := .int (xJ (s0 1 3))) hx hb hown hT hE hW cls_X8 (Or.inl (by decide)) (so_1 h0 g _) (by decide) rfl wn201 dX5_readFactor_111 ?_
      refine x_rd hW (fun x23 ex23 rx23 => ?_)
      refine x_goi (x_runVN (As := [.int (xJ 1), .int (xJ x23)]) hx hb hml hown hT hE hW hl.1 (Or.inl (by decide)) (so_1 h0 g _) rfl cf_X8_fails wq588 wq5 wn645 (c_X8_fails l D g T h0 s0 hW.2.1 1 (by decide) x23 rx23 p0) ⟨rfl, rfl, ⟨by decide, by decide⟩, ⟨by decide, by decide⟩⟩ rfl rfl (Nat.le_of_ble_eq_true rfl) dX5_readFactor_114) hW (fun x24 s25 H locs rx24 hp26 hW => ?_)
      obtain ⟨fs25, hp26⟩ := hp26
      have hF27 := hF.call fs25 (fun k h => by omega)
      have ghp26 := hp26.2
      rw [eQ]
      exact x_zret hx hb hr hlk hW (by omega) ⟨hF27, ⟨hp26.1.1, (hp26.1.2.1.trans k1_1), trivial⟩, by omega⟩ dX5_readFactor_117
    refine x_iload_n hx hb hl 2 rfl dX5_readFactor_29 rfl ?_
    refine x_bipush hx hb dX5_readFactor_30 (by decide) ?_
    refine x_icmp_lt (tgt := 51) hx hb rq (by decide) dX5_readFactor_32 (by decide) (fun c28 => ?_) (fun c28 => False.elim (by omega))
    refine x_aload_n hx hb hl 1 rfl dX5_readFactor_51 rfl ?_
    refine x_get (j := 0) (v := .ref (h0 + 1)) hx hb hown hT hE hW cls_X5 (Or.inl (by decide)) (so_117 h0 g _) (by decide) rfl wq293 dX5_readFactor_52 ?_
    refine lv_dup hx hb dX5_readFactor_55 rfl ?_
    refine x_getN (j := 3) (v := .int (xJ (s0 1 3))) hx hb hown hT hE hW cls_X8 (Or.inl (by decide)) (so_1 h0 g _) (by decide) rfl wn201 dX5_readFactor_56 ?_
    refine x_rd hW (fun x29 ex29 rx29 => ?_)
    refine x_iconst hx hb dX5_readFactor_59 ?_
    refine x_iadd hx hb dX5_readFactor_60 ?_
    refine x_putN (j := 3) hx hb hown hT hE hW cls_X8 (by decide) (fun σ => so_1 h0 g σ) (by decide) (st_X8_3 h0 s0 1 (x29 + 1)) (ln_X8_3 h0 _ _) wn201 rfl rfl rfl (by omega) dX5_readFactor_61 (fun H locs s30 es30 hW => ?_)
    have q31 : IC s30 := by rw [es30]; exact IC_1 p0 (by omega)
    have q32 : s30 1 1 = s0 1 1 := (show s30 1 1 = s0 1 1 from by rw [es30, xU_j _ _ (by decide)]).trans k1_1
    have hF33 := hF.put es30 (by omega)
    refine x_aload_n hx hb hl 1 rfl dX5_readFactor_64 rfl ?_
    refine x_iload_n hx hb hl 2 rfl dX5_readFactor_65 rfl ?_
    refine x_iconst hx hb dX5_readFactor_66 ?_
    refine x_iadd hx hb dX5_readFactor_67 ?_
    refine x_goi (x_runV (As := [.int (xJ (q + 1))]) hx hb hml hown hT hE hW hl.1 (Or.inl (by decide)) (so_117 h0 g _) rfl cf_X5_readSum wq652 wq16 wq650 (c_X5_readSumL6 l D g T h0 s30 hW.2.1 (q + 1) (by omega) (by omega) q31) ⟨rfl, rfl, ⟨by decide, by decide⟩, ⟨by decide, by decide⟩⟩ rfl rfl (Nat.le_of_ble_eq_true rfl) dX5_readFactor_68) hW (fun x34 s35 H locs rx34 hp36 hW => ?_)
    obtain ⟨fs35, hp36⟩ := hp36
    have hF37 := hF33.call fs35 (fun k h => by omega)
    have ghp36 := hp36.2
    refine x_if_eq (tgt := 90) hx hb rx34 dX5_readFactor_71 (by decide) (fun c38 => ?_) (fun c38 => ?_)
    · skip
      refine x_iconst hx hb dX5_readFactor_90 ?_
      rw [eQ]
      exact x_zret hx hb hr hlk hW (by omega) ⟨hF37, ⟨hp36.1.1, (hp36.1.2.1.trans q32), trivial⟩, by omega⟩ dX5_readFactor_91
    refine x_aload_n hx hb hl 1 rfl dX5_readFactor_74 rfl ?_
    refine x_get (j := 0) (v := .ref (h0 + 1)) hx hb hown hT hE hW cls_X5 (Or.inl (by decide)) (so_117 h0 g _) (by decide) rfl wq293 dX5_readFactor_75 ?_
    refine x_bipush hx hb dX5_readFactor_78 (by decide) ?_
    refine x_goi (x_runVN (As := [.int (xJ 93)]) hx hb hml hown hT hE hW hl.1 (Or.inl (by decide)) (so_1 h0 g _) rfl cf_X8_passes wq598 wq6 wn674 (c_X8_passes l D g T h0 s35 hW.2.1 93 (by decide) hp36.1.1) ⟨rfl, rfl, ⟨by decide, by decide⟩, ⟨by decide, by decide⟩⟩ rfl rfl (Nat.le_of_ble_eq_true rfl) dX5_readFactor_80) hW (fun x39 s40 H locs rx39 hp41 hW => ?_)
    obtain ⟨fs40, hp41⟩ := hp41
    have hF42 := hF37.call fs40 (fun k h => by omega)
    have ghp41 := hp41.2
    refine x_if_eq (tgt := 90) hx hb rx39 dX5_readFactor_83 (by decide) (fun c43 => ?_) (fun c43 => ?_)
    · skip
      refine x_iconst hx hb dX5_readFactor_90 ?_
      rw [eQ]
      exact x_zret hx hb hr hlk hW (by omega) ⟨hF42, ⟨hp41.1.1, (hp41.1.2.1.trans (hp36.1.2.1.trans q32)), trivial⟩, by omega⟩ dX5_readFactor_91
    refine x_iconst hx hb dX5_readFactor_86 ?_
    refine lv_goto (tgt := 91) hx hb dX5_readFactor_87 (by decide) ?_
    rw [eQ]
    exact x_zret hx hb hr hlk hW (by omega) ⟨hF42, ⟨hp41.1.1, (hp41.1.2.1.trans (hp36.1.2.1.trans q32)), trivial⟩, by omega⟩ dX5_readFactor_91
  refine x_aload_n hx hb hl 0 rfl dX5_readFactor_10 rfl ?_
  refine x_goi (x_runV (As := []) hx hb hml hown hT hE hW hl.1 (Or.inl (by decide)) (so_117 h0 g _) rfl cf_X5_readNumber wq668 wq20 wq666 (c_X5_readNumber l D g T h0 s0 hW.2.1 p0) ⟨rfl, rfl, ⟨by decide, by decide⟩, ⟨by decide, by decide⟩⟩ rfl rfl (Nat.le_of_ble_eq_true rfl) dX5_readFactor_11) hW (fun x44 s45 H locs rx44 hp46 hW => ?_)
  obtain ⟨fs45, hp46⟩ := hp46
  have hF47 := hF.call fs45 (fun k h => by omega)
  have ghp46 := hp46.2
  rw [eQ]
  exact x_zret hx hb hr hlk hW (by omega) ⟨hF47, ⟨hp46.1.1, (hp46.1.2.1.trans k1_1), trivial⟩, by omega⟩ dX5_readFactor_14
set_option maxHeartbeats 4000000 in
set_option maxRecDepth 100000 in
theorem c_X5_readTermL5 (l : Launch) (D : va_G) (g : xG) (T : Nat × Nat × Nat) (h0 : Nat) (s0 : xS) (hσ : xRR s0) (q : Int) (rq : xR q) (hq : q = 5) (p0 : IC s0) : Met l yX5_readTerm (xws yX5_readTerm cX5_readTerm 4 (some .boolean)) { frames := 7, cells := 0, slots := 0, locals := 154 } (xP [.ref (h0 + 117), .int (xJ q)] D g T h0 s0) (xQi D g h0 (fun r τ => xFr (fun k => k = 1 ∨ k = 118 ∨ k = 119 ∨ k = 120) s0 τ ∧ (((IC τ) ∧ (τ 1 1 = s0 1 1) ∧ True) ∧ (r = 0 ∨ r = 1)))) 0 0 (xA h0) := by
  refine x_met hσ (by decide) (Nat.le_of_ble_eq_true rfl) ?_
  intro p e s m args below meth c hx hb hr hml hown hT hlk hnm hE hW ls hl
  have hl : lv_has ls 4 [(0, .ref (h0 + 117)), (1, .int (xJ q))] := hl
  obtain ⟨Q, eQ⟩ : ∃ Q, Q = MQ below (xQi D g h0 (fun r τ => xFr (fun k => k = 1 ∨ k = 118 ∨ k = 119 ∨ k = 120) s0 τ ∧ (((IC τ) ∧ (τ 1 1 = s0 1 1) ∧ True) ∧ (r = 0 ∨ r = 1)))) args s 0 0 (xA h0) := ⟨_, rfl⟩
  rw [← eQ]
  generalize hHe : ([] : List Loc) = locs at hW ⊢
  obtain ⟨H, eH⟩ : ∃ H, H = s.heap := ⟨_, rfl⟩
  rw [← eH] at hW ⊢
  have hF : xFr (fun k => k = 1 ∨ k = 118 ∨ k = 119 ∨ k = 120) s0 s0 := xFr.rf
  have k1_1 : s0 1 1 = s0 1 1 := rfl
  refine x_aload_n hx hb hl 0 rfl dX5_readTerm_0 rfl ?_
  refine x_iload_n hx hb hl 1 rfl dX5_readTerm_1 rfl ?_
  refine x_goi (x_runV (As := [.int (xJ q)]) hx hb hml hown hT hE hW hl.1 (Or.inl (by decide)) (so_117 h0 g _) rfl cf_X5_readFactor wq660 wq18 wq658 (c_X5_readFactorL5 l D g T h0 s0 hW.2.1 q rq (by omega) p0) ⟨rfl, rfl, ⟨by decide, by decide⟩, ⟨by decide, by decide⟩⟩ rfl rfl (Nat.le_of_ble_eq_true rfl) dX5_readTerm_2) hW (fun x1 s2 H locs rx1 hp3 hW => ?_)
  obtain ⟨fs2, hp3⟩ := hp3
  have hF4 := hF.call fs2 (fun k h => by omega)
  have ghp3 := hp3.2
  refine x_if_ne (tgt := 10) hx hb rx1 dX5_readTerm_5 (by decide) (fun c5 => ?_) (fun c5 => ?_)
  · skip
    refine x_iconst hx hb dX5_readTerm_10 ?_
    refine lv_istore_n (lv' := [(2, .int (xJ 0)), (0, .ref (h0 + 117)), (1, .int (xJ q))]) hx hb dX5_readTerm_11 rfl hl (by decide) rfl (fun ls hl => ?_)
    have L12 : ∀ (fu : Nat) (i2_12 : Int) (s_12 : xS) (H : Heap) (locs : List Loc) (ls : Array Slot), (xR i2_12) → (xFr (fun k => k = 1 ∨ k = 118 ∨ k = 119 ∨ k = 120) s0 s_12) → (IC s_12) → (s_12 1 1 = s0 1 1) → (0 ≤ i2_12) → (i2_12 ≤ 300) → (300 + 1 - i2_12).toNat < fu → xW D g h0 s H locs s_12 → lv_has ls 4 [(0, .ref (h0 + 117)), (1, .int (xJ q)), (2, .int (xJ i2_12))] → W p l e { frames := 7, cells := 0, slots := 0, locals := 154 } s m args below meth c H locs 0 0 Q (F0 m 12 ls []) := by
      intro fu
      induction fu with
      | zero => intro i2_12 s_12 H locs ls ri2_12 hF_12 q12_0 q12_1 v12_0 v12_1 hm; exact absurd hm (Nat.not_lt_zero _)
      | succ fu ih12 =>
        intro i2_12 s_12 H locs ls ri2_12 hF_12 q12_0 q12_1 v12_0 v12_1 hm hW hl
        refine x_iload_n hx hb hl 2 rfl dX5_readTerm_12 rfl ?_
        refine x_sipush hx hb dX5_readTerm_13 (by decide) ?_
        refine x_icmp_ge (tgt := 86) hx hb ri2_12 (by decide) dX5_readTerm_16 (by decide) (fun c6 => ?_) (fun c6 => ?_)
        · skip
          refine x_iconst hx hb dX5_readTerm_86 ?_
          rw [eQ]
          exact x_zret hx hb hr hlk hW (by omega) ⟨hF_12, ⟨q12_0, q12_1, trivial⟩, by omega⟩ dX5_readTerm_87
        refine x_aload_n hx hb hl 0 rfl dX5_readTerm_19 rfl ?_
        refine x_get (j := 0) (v := .ref (h0 + 1)) hx hb hown hT hE hW cls_X5 (Or.inl (by decide)) (so_117 h0 g _) (by decide) rfl wq293 dX5_readTerm_20 ?_
        refine x_goi (x_runVN (As := []) hx hb hml hown hT hE hW hl.1 (Or.inl (by decide)) (so_1 h0 g _) rfl cf_X8_sign wq581 wq4 wn641 (c_X8_sign l D g T h0 s_12 hW.2.1 q12_0) ⟨rfl, rfl, ⟨by decide, by decide⟩, ⟨by decide, by decide⟩⟩ rfl rfl (Nat.le_of_ble_eq_true rfl) dX5_readTerm_23) hW (fun x7 s8 H locs rx7 hp9 hW => ?_)
        obtain ⟨es8, hp9⟩ := hp9
        subst es8
        have ghp9 := hp9
        refine lv_istore_n (lv' := [(3, .int (xJ x7)), (0, .ref (h0 + 117)), (1, .int (xJ q)), (2, .int (xJ i2_12))]) hx hb dX5_readTerm_26 rfl hl (by decide) rfl (fun ls hl => ?_)
        refine x_iload_n hx hb hl 0 rfl dX5_readTerm_27 rfl ?_
        refine x_bipush hx hb dX5_readTerm_28 (by decide) ?_
        have J47 : ∀ (ls : Array Slot), (x7 ≠ -1) → lv_has ls 4 [(0, .ref (h0 + 117)), (1, .int (xJ q)), (2, .int (xJ i2_12)), (3, .int (xJ x7))] → W p l e { frames := 7, cells := 0, slots := 0, locals := 154 } s m args below meth c H locs 0 0 Q (F0 m 47 ls []) := by
          intro ls v47_0  hl
          refine x_aload_n hx hb hl 0 rfl dX5_readTerm_47 rfl ?_
          refine x_get (j := 0) (v := .ref (h0 + 1)) hx hb hown hT hE hW cls_X5 (Or.inl (by decide)) (so_117 h0 g _) (by decide) rfl wq293 dX5_readTerm_48 ?_
          refine lv_dup hx hb dX5_readTerm_51 rfl ?_
          refine x_getN (j := 3) (v := .int (xJ (s_12 1 3))) hx hb hown hT hE hW cls_X8 (Or.inl (by decide)) (so_1 h0 g _) (by decide) rfl wn201 dX5_readTerm_52 ?_
          refine x_rd hW (fun x10 ex10 rx10 => ?_)
          refine x_iconst hx hb dX5_readTerm_55 ?_
          refine x_iadd hx hb dX5_readTerm_56 ?_
          refine x_putN (j := 3) hx hb hown hT hE hW cls_X8 (by decide) (fun σ => so_1 h0 g σ) (by decide) (st_X8_3 h0 s_12 1 (x10 + 1)) (ln_X8_3 h0 _ _) wn201 rfl rfl rfl (by omega) dX5_readTerm_57 (fun H locs s11 es11 hW => ?_)
          have q12 : IC s11 := by rw [es11]; exact IC_1 q12_0 (by omega)
          have q13 : s11 1 1 = s0 1 1 := (show s11 1 1 = s_12 1 1 from by rw [es11, xU_j _ _ (by decide)]).trans q12_1
          have hF14 := hF_12.put es11 (by omega)
          refine x_aload_n hx hb hl 0 rfl dX5_readTerm_60 rfl ?_
          refine x_iload_n hx hb hl 1 rfl dX5_readTerm_61 rfl ?_
          refine x_goi (x_runV (As := [.int (xJ q)]) hx hb hml hown hT hE hW hl.1 (Or.inl (by decide)) (so_117 h0 g _) rfl cf_X5_readFactor wq660 wq18 wq658 (c_X5_readFactorL5 l D g T h0 s11 hW.2.1 q rq (by omega) q12) ⟨rfl, rfl, ⟨by decide, by decide⟩, ⟨by decide, by decide⟩⟩ rfl rfl (Nat.le_of_ble_eq_true rfl) dX5_readTerm_62) hW (fun x15 s16 H locs rx15 hp17 hW => ?_)
          obtain ⟨fs16, hp17⟩ := hp17
          have hF18 := hF14.call fs16 (fun k h => by omega)
          have ghp17 := hp17.2
          refine x_if_ne (tgt := 70) hx hb rx15 dX5_readTerm_65 (by decide) (fun c19 => ?_) (fun c19 => ?_)
          · skip
            refine x_aload_n hx hb hl 0 rfl dX5_readTerm_70 rfl ?_
            refine x_get (j := 1) (v := .ref (h0 + 118)) hx hb hown hT hE hW cls_X5 (Or.inl (by decide)) (so_117 h0 g _) (by decide) rfl wq294 dX5_readTerm_71 ?_
            refine x_iload_n hx hb hl 3 rfl dX5_readTerm_74 rfl ?_
            refine x_iconst hx hb dX5_readTerm_75 ?_
            refine x_goi (x_runVN (As := [.int (xJ x7), .int (xJ 0)]) hx hb hml hown hT hE hW hl.1 (Or.inl (by decide)) (so_118 h0 g _) rfl cf_X4_put wq672 wq21 wn670 (c_X4_put l D g T h0 s16 hW.2.1 x7 rx7 0 (by decide) hp17.1.1) ⟨rfl, rfl, ⟨by decide, by decide⟩, ⟨by decide, by decide⟩⟩ rfl rfl (Nat.le_of_ble_eq_true rfl) dX5_readTerm_76) hW (fun x20 s21 H locs rx20 hp22 hW => ?_)
            obtain ⟨fs21, hp22⟩ := hp22
            have hF23 := hF18.call fs21 (fun k h => by omega)
            have q24 : s21 1 1 = s0 1 1 := (congrFun (fs21 _ (by omega)) _).trans (hp17.1.2.1.trans q13)
            have ghp22 := hp22.2
            refine lv_pop hx hb dX5_readTerm_79 rfl ?_
            refine x_iinc (lv' := [(2, .int (xJ (i2_12 + 1))), (0, .ref (h0 + 117)), (1, .int (xJ q)), (3, .int (xJ x7))]) hx hb hl 2 rfl dX5_readTerm_80 (by decide) rfl (fun ls hl => ?_)
            refine lv_goto (tgt := 12) hx hb dX5_readTerm_83 (by decide) ?_
            exact ih12 (i2_12 + 1) s21 H locs ls (by omega) hF23 hp22.1.1 q24 (by omega) (by omega) (by omega) hW (lv_sub hl [1, 2, 0] rfl)
          refine x_iconst hx hb dX5_readTerm_68 ?_
          rw [eQ]
          exact x_zret hx hb hr hlk hW (by omega) ⟨hF18, ⟨hp17.1.1, (hp17.1.2.1.trans q13), trivial⟩, by omega⟩ dX5_readTerm_69
        refine x_icmp_eq (tgt := 47) hx hb rx7 (by decide) dX5_readTerm_30 (by decide) (fun c25 => ?_) (fun c25 => ?_)
        · skip
          exact J47 ls (by omega)  (lv_sub hl [1, 2, 3, 0] rfl)
        refine x_iload_n hx hb hl 0 rfl dX5_readTerm_33 rfl ?_
        refine x_bipush hx hb dX5_readTerm_34 (by decide) ?_
        refine x_icmp_eq (tgt := 47) hx hb rx7 (by decide) dX5_readTerm_36 (by decide) (fun c26 => ?_) (fun c26 => ?_)
        · skip
          exact J47 ls (by omega)  (lv_sub hl [1, 2, 3, 0] rfl)
        refine x_iload_n hx hb hl 0 rfl dX5_readTerm_39 rfl ?_
        refine x_bipush hx hb dX5_readTerm_40 (by decide) ?_
        refine x_icmp_eq (tgt := 47) hx hb rx7 (by decide) dX5_readTerm_42 (by decide) (fun c27 => ?_) (fun c27 => ?_)
        · skip
          exact J47 ls (by omega)  (lv_sub hl [1, 2, 3, 0] rfl)
        refine x_iconst hx hb dX5_readTerm_45 ?_
        rw [eQ]
        exact x_zret hx hb hr hlk hW (by omega) ⟨hF_12, ⟨q12_0, q12_1, trivial⟩, by omega⟩ dX5_readTerm_46
    exact L12 ((300 + 1 - 0 : Int).toNat + 1) 0 s2 H locs ls (by decide) hF4 hp3.1.1 (hp3.1.2.1.trans k1_1) (by omega) (by omega) (Nat.lt_succ_self _) hW (lv_sub hl [1, 2, 0] rfl)
  refine x_iconst hx hb dX5_readTerm_8 ?_
  rw [eQ]
  exact x_zret hx hb hr hlk hW (by omega) ⟨hF4, ⟨hp3.1.1, (hp3.1.2.1.trans k1_1), trivial⟩, by omega⟩ dX5_readTerm_9
set_option maxHeartbeats 4000000 in
set_option maxRecDepth 100000 in
theorem c_X5_readSumL5 (l : Launch) (D : va_G) (g : xG) (T : Nat × Nat × Nat) (h0 : Nat) (s0 : xS) (hσ : xRR s0) (q : Int) (rq : xR q) (hq : q = 5) (p0 : IC s0) : Met l yX5_readSum (xws yX5_readSum cX5_readSum 4 (some .boolean)) { frames := 8, cells := 0, slots := 0, locals := 177 } (xP [.ref (h0 + 117), .int (xJ q)] D g T h0 s0) (xQi D g h0 (fun r τ => xFr (fun k => k = 1 ∨ k = 118 ∨ k = 119 ∨ k = 120) s0 τ ∧ (((IC τ) ∧ (τ 1 1 = s0 1 1) ∧ True) ∧ (r = 0 ∨ r = 1)))) 0 0 (xA h0) := by
  refine x_met hσ (by decide) (Nat.le_of_ble_eq_true rfl) ?_
  intro p e s m args below meth c hx hb hr hml hown hT hlk hnm hE hW ls hl
  have hl : lv_has ls 4 [(0, .ref (h0 + 117)), (1, .int (xJ q))] := hl
  obtain ⟨Q, eQ⟩ : ∃ Q, Q = MQ below (xQi D g h0 (fun r τ => xFr (fun k => k = 1 ∨ k = 118 ∨ k = 119 ∨ k = 120) s0 τ ∧ (((IC τ) ∧ (τ 1 1 = s0 1 1) ∧ True) ∧ (r = 0 ∨ r = 1)))) args s 0 0 (xA h0) := ⟨_, rfl⟩
  rw [← eQ]
  generalize hHe : ([] : List Loc) = locs at hW ⊢
  obtain ⟨H, eH⟩ : ∃ H, H = s.heap := ⟨_, rfl⟩
  rw [← eH] at hW ⊢
  have hF : xFr (fun k => k = 1 ∨ k = 118 ∨ k = 119 ∨ k = 120) s0 s0 := xFr.rf
  have k1_1 : s0 1 1 = s0 1 1 := rfl
  refine x_aload_n hx hb hl 0 rfl dX5_readSum_0 rfl ?_
  refine x_iload_n hx hb hl 1 rfl dX5_readSum_1 rfl ?_
  refine x_goi (x_runV (As := [.int (xJ q)]) hx hb hml hown hT hE hW hl.1 (Or.inl (by decide)) (so_117 h0 g _) rfl cf_X5_readTerm wq656 wq17 wq654 (c_X5_readTermL5 l D g T h0 s0 hW.2.1 q rq (by omega) p0) ⟨rfl, rfl, ⟨by decide, by decide⟩, ⟨by decide, by decide⟩⟩ rfl rfl (Nat.le_of_ble_eq_true rfl) dX5_readSum_2) hW (fun x1 s2 H locs rx1 hp3 hW => ?_)
  obtain ⟨fs2, hp3⟩ := hp3
  have hF4 := hF.call fs2 (fun k h => by omega)
  have ghp3 := hp3.2
  refine x_if_ne (tgt := 10) hx hb rx1 dX5_readSum_5 (by decide) (fun c5 => ?_) (fun c5 => ?_)
  · skip
    refine x_iconst hx hb dX5_readSum_10 ?_
    refine lv_istore_n (lv' := [(2, .int (xJ 0)), (0, .ref (h0 + 117)), (1, .int (xJ q))]) hx hb dX5_readSum_11 rfl hl (by decide) rfl (fun ls hl => ?_)
    have L12 : ∀ (fu : Nat) (i2_12 : Int) (s_12 : xS) (H : Heap) (locs : List Loc) (ls : Array Slot), (xR i2_12) → (xFr (fun k => k = 1 ∨ k = 118 ∨ k = 119 ∨ k = 120) s0 s_12) → (IC s_12) → (s_12 1 1 = s0 1 1) → (0 ≤ i2_12) → (i2_12 ≤ 300) → (300 + 1 - i2_12).toNat < fu → xW D g h0 s H locs s_12 → lv_has ls 4 [(0, .ref (h0 + 117)), (1, .int (xJ q)), (2, .int (xJ i2_12))] → W p l e { frames := 8, cells := 0, slots := 0, locals := 177 } s m args below meth c H locs 0 0 Q (F0 m 12 ls []) := by
      intro fu
      induction fu with
      | zero => intro i2_12 s_12 H locs ls ri2_12 hF_12 q12_0 q12_1 v12_0 v12_1 hm; exact absurd hm (Nat.not_lt_zero _)
      | succ fu ih12 =>
        intro i2_12 s_12 H locs ls ri2_12 hF_12 q12_0 q12_1 v12_0 v12_1 hm hW hl
        refine x_iload_n hx hb hl 2 rfl dX5_readSum_12 rfl ?_
        refine x_sipush hx hb dX5_readSum_13 (by decide) ?_
        refine x_icmp_ge (tgt := 80) hx hb ri2_12 (by decide) dX5_readSum_16 (by decide) (fun c6 => ?_) (fun c6 => ?_)
        · skip
          refine x_iconst hx hb dX5_readSum_80 ?_
          rw [eQ]
          exact x_zret hx hb hr hlk hW (by omega) ⟨hF_12, ⟨q12_0, q12_1, trivial⟩, by omega⟩ dX5_readSum_81
        refine x_aload_n hx hb hl 0 rfl dX5_readSum_19 rfl ?_
        refine x_get (j := 0) (v := .ref (h0 + 1)) hx hb hown hT hE hW cls_X5 (Or.inl (by decide)) (so_117 h0 g _) (by decide) rfl wq293 dX5_readSum_20 ?_
        refine x_goi (x_runVN (As := []) hx hb hml hown hT hE hW hl.1 (Or.inl (by decide)) (so_1 h0 g _) rfl cf_X8_sign wq581 wq4 wn641 (c_X8_sign l D g T h0 s_12 hW.2.1 q12_0) ⟨rfl, rfl, ⟨by decide, by decide⟩, ⟨by decide, by decide⟩⟩ rfl rfl (Nat.le_of_ble_eq_true rfl) dX5_readSum_23) hW (fun x7 s8 H locs rx7 hp9 hW => ?_)
        obtain ⟨es8, hp9⟩ := hp9
        subst es8
        have ghp9 := hp9
        refine lv_istore_n (lv' := [(3, .int (xJ x7)), (0, .ref (h0 + 117)), (1, .int (xJ q)), (2, .int (xJ i2_12))]) hx hb dX5_readSum_26 rfl hl (by decide) rfl (fun ls hl => ?_)
        refine x_iload_n hx hb hl 0 rfl dX5_readSum_27 rfl ?_
        refine x_bipush hx hb dX5_readSum_28 (by decide) ?_
        have J41 : ∀ (ls : Array Slot), (x7 ≠ -1) → lv_has ls 4 [(0, .ref (h0 + 117)), (1, .int (xJ q)), (2, .int (xJ i2_12)), (3, .int (xJ x7))] → W p l e { frames := 8, cells := 0, slots := 0, locals := 177 } s m args below meth c H locs 0 0 Q (F0 m 41 ls []) := by
          intro ls v41_0  hl
          refine x_aload_n hx hb hl 0 rfl dX5_readSum_41 rfl ?_
          refine x_get (j := 0) (v := .ref (h0 + 1)) hx hb hown hT hE hW cls_X5 (Or.inl (by decide)) (so_117 h0 g _) (by decide) rfl wq293 dX5_readSum_42 ?_
          refine lv_dup hx hb dX5_readSum_45 rfl ?_
          refine x_getN (j := 3) (v := .int (xJ (s_12 1 3))) hx hb hown hT hE hW cls_X8 (Or.inl (by decide)) (so_1 h0 g _) (by decide) rfl wn201 dX5_readSum_46 ?_
          refine x_rd hW (fun x10 ex10 rx10 => ?_)
          refine x_iconst hx hb dX5_readSum_49 ?_
          refine x_iadd hx hb dX5_readSum_50 ?_
          refine x_putN (j := 3) hx hb hown hT hE hW cls_X8 (by decide) (fun σ => so_1 h0 g σ) (by decide) (st_X8_3 h0 s_12 1 (x10 + 1)) (ln_X8_3 h0 _ _) wn201 rfl rfl rfl (by omega) dX5_readSum_51 (fun H locs s11 es11 hW => ?_)
          have q12 : IC s11 := by rw [es11]; exact IC_1 q12_0 (by omega)
          have q13 : s11 1 1 = s0 1 1 := (show s11 1 1 = s_12 1 1 from by rw [es11, xU_j _ _ (by decide)]).trans q12_1
          have hF14 := hF_12.put es11 (by omega)
          refine x_aload_n hx hb hl 0 rfl dX5_readSum_54 rfl ?_
          refine x_iload_n hx hb hl 1 rfl dX5_readSum_55 rfl ?_
          refine x_goi (x_runV (As := [.int (xJ q)]) hx hb hml hown hT hE hW hl.1 (Or.inl (by decide)) (so_117 h0 g _) rfl cf_X5_readTerm wq656 wq17 wq654 (c_X5_readTermL5 l D g T h0 s11 hW.2.1 q rq (by omega) q12) ⟨rfl, rfl, ⟨by decide, by decide⟩, ⟨by decide, by decide⟩⟩ rfl rfl (Nat.le_of_ble_eq_true rfl) dX5_readSum_56) hW (fun x15 s16 H locs rx15 hp17 hW => ?_)
          obtain ⟨fs16, hp17⟩ := hp17
          have hF18 := hF14.call fs16 (fun k h => by omega)
          have ghp17 := hp17.2
          refine x_if_ne (tgt := 64) hx hb rx15 dX5_readSum_59 (by decide) (fun c19 => ?_) (fun c19 => ?_)
          · skip
            refine x_aload_n hx hb hl 0 rfl dX5_readSum_64 rfl ?_
            refine x_get (j := 1) (v := .ref (h0 + 118)) hx hb hown hT hE hW cls_X5 (Or.inl (by decide)) (so_117 h0 g _) (by decide) rfl wq294 dX5_readSum_65 ?_
            refine x_iload_n hx hb hl 3 rfl dX5_readSum_68 rfl ?_
            refine x_iconst hx hb dX5_readSum_69 ?_
            refine x_goi (x_runVN (As := [.int (xJ x7), .int (xJ 0)]) hx hb hml hown hT hE hW hl.1 (Or.inl (by decide)) (so_118 h0 g _) rfl cf_X4_put wq672 wq21 wn670 (c_X4_put l D g T h0 s16 hW.2.1 x7 rx7 0 (by decide) hp17.1.1) ⟨rfl, rfl, ⟨by decide, by decide⟩, ⟨by decide, by decide⟩⟩ rfl rfl (Nat.le_of_ble_eq_true rfl) dX5_readSum_70) hW (fun x20 s21 H locs rx20 hp22 hW => ?_)
            obtain ⟨fs21, hp22⟩ := hp22
            have hF23 := hF18.call fs21 (fun k h => by omega)
            have q24 : s21 1 1 = s0 1 1 := (congrFun (fs21 _ (by omega)) _).trans (hp17.1.2.1.trans q13)
            have ghp22 := hp22.2
            refine lv_pop hx hb dX5_readSum_73 rfl ?_
            refine x_iinc (lv' := [(2, .int (xJ (i2_12 + 1))), (0, .ref (h0 + 117)), (1, .int (xJ q)), (3, .int (xJ x7))]) hx hb hl 2 rfl dX5_readSum_74 (by decide) rfl (fun ls hl => ?_)
            refine lv_goto (tgt := 12) hx hb dX5_readSum_77 (by decide) ?_
            exact ih12 (i2_12 + 1) s21 H locs ls (by omega) hF23 hp22.1.1 q24 (by omega) (by omega) (by omega) hW (lv_sub hl [1, 2, 0] rfl)
          refine x_iconst hx hb dX5_readSum_62 ?_
          rw [eQ]
          exact x_zret hx hb hr hlk hW (by omega) ⟨hF18, ⟨hp17.1.1, (hp17.1.2.1.trans q13), trivial⟩, by omega⟩ dX5_readSum_63
        refine x_icmp_eq (tgt := 41) hx hb rx7 (by decide) dX5_readSum_30 (by decide) (fun c25 => ?_) (fun c25 => ?_)
        · skip
          exact J41 ls (by omega)  (lv_sub hl [1, 2, 3, 0] rfl)
        refine x_iload_n hx hb hl 0 rfl dX5_readSum_33 rfl ?_
        refine x_bipush hx hb dX5_readSum_34 (by decide) ?_
        refine x_icmp_eq (tgt := 41) hx hb rx7 (by decide) dX5_readSum_36 (by decide) (fun c26 => ?_) (fun c26 => ?_)
        · skip
          exact J41 ls (by omega)  (lv_sub hl [1, 2, 3, 0] rfl)
        refine x_iconst hx hb dX5_readSum_39 ?_
        rw [eQ]
        exact x_zret hx hb hr hlk hW (by omega) ⟨hF_12, ⟨q12_0, q12_1, trivial⟩, by omega⟩ dX5_readSum_40
    exact L12 ((300 + 1 - 0 : Int).toNat + 1) 0 s2 H locs ls (by decide) hF4 hp3.1.1 (hp3.1.2.1.trans k1_1) (by omega) (by omega) (Nat.lt_succ_self _) hW (lv_sub hl [1, 2, 0] rfl)
  refine x_iconst hx hb dX5_readSum_8 ?_
  rw [eQ]
  exact x_zret hx hb hr hlk hW (by omega) ⟨hF4, ⟨hp3.1.1, (hp3.1.2.1.trans k1_1), trivial⟩, by omega⟩ dX5_readSum_9
set_option maxHeartbeats 4000000 in
set_option maxRecDepth 100000 in
theorem c_X5_readFactorL4 (l : Launch) (D : va_G) (g : xG) (T : Nat × Nat × Nat) (h0 : Nat) (s0 : xS) (hσ : xRR s0) (q : Int) (rq : xR q) (hq : q = 4) (p0 : IC s0) : Met l yX5_readFactor (xws yX5_readFactor cX5_readFactor 4 (some .boolean)) { frames := 9, cells := 0, slots := 0, locals := 200 } (xP [.ref (h0 + 117), .int (xJ q)] D g T h0 s0) (xQi D g h0 (fun r τ => xFr (fun k => k = 1 ∨ k = 118 ∨ k = 119 ∨ k = 120) s0 τ ∧ (((IC τ) ∧ (τ 1 1 = s0 1 1) ∧ True) ∧ (r = 0 ∨ r = 1)))) 0 0 (xA h0) := by
  refine x_met hσ (by decide) (Nat.le_of_ble_eq_true rfl) ?_
  intro p e s m args below meth c hx hb hr hml hown hT hlk hnm hE hW ls hl
  have hl : lv_has ls 4 [(0, .ref (h0 + 117)), (1, .int (xJ q))] := hl
  obtain ⟨Q, eQ⟩ : ∃ Q, Q = MQ below (xQi D g h0 (fun r τ => xFr (fun k => k = 1 ∨ k = 118 ∨ k = 119 ∨ k = 120) s0 τ ∧ (((IC τ) ∧ (τ 1 1 = s0 1 1) ∧ True) ∧ (r = 0 ∨ r = 1)))) args s 0 0 (xA h0) := ⟨_, rfl⟩
  rw [← eQ]
  generalize hHe : ([] : List Loc) = locs at hW ⊢
  obtain ⟨H, eH⟩ : ∃ H, H = s.heap := ⟨_, rfl⟩
  rw [← eH] at hW ⊢
  have hF : xFr (fun k => k = 1 ∨ k = 118 ∨ k = 119 ∨ k = 120) s0 s0 := xFr.rf
  have k1_1 : s0 1 1 = s0 1 1 := rfl
  refine x_aload_n hx hb hl 0 rfl dX5_readFactor_0 rfl ?_
  refine x_get (j := 0) (v := .ref (h0 + 1)) hx hb hown hT hE hW cls_X5 (Or.inl (by decide)) (so_117 h0 g _) (by decide) rfl wq293 dX5_readFactor_1 ?_
  refine x_goi (x_runVN (As := []) hx hb hml hown hT hE hW hl.1 (Or.inl (by decide)) (so_1 h0 g _) rfl cf_X8_isDigit wq664 wq19 wn662 (c_X8_isDigit l D g T h0 s0 hW.2.1 p0) ⟨rfl, rfl, ⟨by decide, by decide⟩, ⟨by decide, by decide⟩⟩ rfl rfl (Nat.le_of_ble_eq_true rfl) dX5_readFactor_4) hW (fun x1 s2 H locs rx1 hp3 hW => ?_)
  obtain ⟨es2, hp3⟩ := hp3
  subst es2
  have ghp3 := hp3
  refine x_if_eq (tgt := 15) hx hb rx1 dX5_readFactor_7 (by decide) (fun c4 => ?_) (fun c4 => ?_)
  · skip
    refine x_aload_n hx hb hl 0 rfl dX5_readFactor_15 rfl ?_
    refine x_get (j := 0) (v := .ref (h0 + 1)) hx hb hown hT hE hW cls_X5 (Or.inl (by decide)) (so_117 h0 g _) (by decide) rfl wq293 dX5_readFactor_16 ?_
    refine x_goi (x_runVN (As := []) hx hb hml hown hT hE hW hl.1 (Or.inl (by decide)) (so_1 h0 g _) rfl cf_X8_sign wq581 wq4 wn641 (c_X8_sign l D g T h0 s0 hW.2.1 p0) ⟨rfl, rfl, ⟨by decide, by decide⟩, ⟨by decide, by decide⟩⟩ rfl rfl (Nat.le_of_ble_eq_true rfl) dX5_readFactor_19) hW (fun x5 s6 H locs rx5 hp7 hW => ?_)
    obtain ⟨es6, hp7⟩ := hp7
    subst es6
    have ghp7 := hp7
    refine lv_istore_n (lv' := [(2, .int (xJ x5)), (0, .ref (h0 + 117)), (1, .int (xJ q))]) hx hb dX5_readFactor_22 rfl hl (by decide) rfl (fun ls hl => ?_)
    refine x_iload_n hx hb hl 0 rfl dX5_readFactor_23 rfl ?_
    refine x_bipush hx hb dX5_readFactor_24 (by decide) ?_
    refine x_icmp_ne (tgt := 92) hx hb rx5 (by decide) dX5_readFactor_26 (by decide) (fun c8 => ?_) (fun c8 => ?_)
    · skip
      refine x_iload_n hx hb hl 0 rfl dX5_readFactor_92 rfl ?_
      refine x_goi (x_runSN (As := [.int (xJ x5)]) hx hb hml hown hT hE hW hl.1 cf_X4_placeOfLetter wq676 wn675 (c_X4_placeOfLetter l D g T h0 s0 hW.2.1 x5 rx5) ⟨rfl, rfl, ⟨by decide, by decide⟩, ⟨by decide, by decide⟩⟩ rfl rfl (Nat.le_of_ble_eq_true rfl) dX5_readFactor_93) hW (fun x9 s10 H locs rx9 hp11 hW => ?_)
      obtain ⟨es10, hp11⟩ := hp11
      subst es10
      have ghp11 := hp11
      refine lv_istore_n (lv' := [(3, .int (xJ x9)), (2, .int (xJ x5)), (0, .ref (h0 + 117)), (1, .int (xJ q))]) hx hb dX5_readFactor_96 rfl hl (by decide) rfl (fun ls hl => ?_)
      refine x_iload_n hx hb hl 0 rfl dX5_readFactor_97 rfl ?_
      refine x_iconst hx hb dX5_readFactor_98 ?_
      refine x_icmp_ne (tgt := 118) hx hb rx9 (by decide) dX5_readFactor_99 (by decide) (fun c12 => ?_) (fun c12 => ?_)
      · skip
        refine x_aload_n hx hb hl 2 rfl dX5_readFactor_118 rfl ?_
        refine x_get (j := 0) (v := .ref (h0 + 1)) hx hb hown hT hE hW cls_X5 (Or.inl (by decide)) (so_117 h0 g _) (by decide) rfl wq293 dX5_readFactor_119 ?_
        refine lv_dup hx hb dX5_readFactor_122 rfl ?_
        refine x_getN (j := 3) (v := .int (xJ (s0 1 3))) hx hb hown hT hE hW cls_X8 (Or.inl (by decide)) (so_1 h0 g _) (by decide) rfl wn201 dX5_readFactor_123 ?_
        refine x_rd hW (fun x13 ex13 rx13 => ?_)
        refine x_iconst hx hb dX5_readFactor_126 ?_
        refine x_iadd hx hb dX5_readFactor_127 ?_
        refine x_putN (j := 3) hx hb hown hT hE hW cls_X8 (by decide) (fun σ => so_1 h0 g σ) (by decide) (st_X8_3 h0 s0 1 (x13 + 1)) (ln_X8_3 h0 _ _) wn201 rfl rfl rfl (by omega) dX5_readFactor_128 (fun H locs s14 es14 hW => ?_)
        have q15 : IC s14 := by rw [es14]; exact IC_1 p0 (by omega)
        have q16 : s14 1 1 = s0 1 1 := (show s14 1 1 = s0 1 1 from by rw [es14, xU_j _ _ (by decide)]).trans k1_1
        have hF17 := hF.put es14 (by omega)
        refine x_aload_n hx hb hl 2 rfl dX5_readFactor_131 rfl ?_
        refine x_get (j := 1) (v := .ref (h0 + 118)) hx hb hown hT hE hW cls_X5 (Or.inl (by decide)) (so_117 h0 g _) (by decide) rfl wq294 dX5_readFactor_132 ?_
        refine x_iconst hx hb dX5_readFactor_135 ?_
        refine x_iload_n hx hb hl 0 rfl dX5_readFactor_136 rfl ?_
        refine x_goi (x_runVN (As := [.int (xJ 2), .int (xJ x9)]) hx hb hml hown hT hE hW hl.1 (Or.inl (by decide)) (so_118 h0 g _) rfl cf_X4_put wq672 wq21 wn670 (c_X4_put l D g T h0 s14 hW.2.1 2 (by decide) x9 rx9 q15) ⟨rfl, rfl, ⟨by decide, by decide⟩, ⟨by decide, by decide⟩⟩ rfl rfl (Nat.le_of_ble_eq_true rfl) dX5_readFactor_137) hW (fun x18 s19 H locs rx18 hp20 hW => ?_)
        obtain ⟨fs19, hp20⟩ := hp20
        have hF21 := hF17.call fs19 (fun k h => by omega)
        have q22 : s19 1 1 = s0 1 1 := (congrFun (fs19 _ (by omega)) _).trans q16
        have ghp20 := hp20.2
        refine lv_pop hx hb dX5_readFactor_140 rfl ?_
        refine x_iconst hx hb dX5_readFactor_141 ?_
        rw [eQ]
        exact x_zret hx hb hr hlk hW (by omega) ⟨hF21, ⟨hp20.1.1, q22, trivial⟩, by omega⟩ dX5_readFactor_142
      refine x_aload_n hx hb hl 2 rfl dX5_readFactor_102 rfl ?_
      refine x_get (j := 0) (v := .ref (h0 + 1)) hx hb hown hT hE hW cls_X5 (Or.inl (by decide)) (so_117 h0 g _) (by decide) rfl wq293 dX5_readFactor_103 ?_
      refine x_iconst hx hb dX5_readFactor_106 ?_
      refine x_aload_n hx hb hl 2 rfl dX5_readFactor_107 rfl ?_
      refine x_get (j := 0) (v := .ref (h0 + 1)) hx hb hown hT hE hW cls_X5 (Or.inl (by decide)) (so_117 h0 g _) (by decide) rfl wq293 dX5_readFactor_108 ?_
      refine x_getN (j := 3) (v := .int (xJ (s0 1 3))) hx hb hown hT hE hW cls_X8 (Or.inl (by decide)) (so_1 h0 g _) (by decide) rfl wn201 dX5_readFactor_111 ?_
      refine x_rd hW (fun x23 ex23 rx23 => ?_)
      refine x_goi (x_runVN (As := [.int (xJ 1), .int (xJ x23)]) hx hb hml hown hT hE hW hl.1 (Or.inl (by decide)) (so_1 h0 g _) rfl cf_X8_fails wq588 wq5 wn645 (c_X8_fails l D g T h0 s0 hW.2.1 1 (by decide) x23 rx23 p0) ⟨rfl, rfl, ⟨by decide, by decide⟩, ⟨by decide, by decide⟩⟩ rfl rfl (Nat.le_of_ble_eq_true rfl) dX5_readFactor_114) hW (fun x24 s25 H locs rx24 hp26 hW => ?_)
      obtain ⟨fs25, hp26⟩ := hp26
      have hF27 := hF.call fs25 (fun k h => by omega)
      have ghp26 := hp26.2
      rw [eQ]
      exact x_zret hx hb hr hlk hW (by omega) ⟨hF27, ⟨hp26.1.1, (hp26.1.2.1.trans k1_1), trivial⟩, by omega⟩ dX5_readFactor_117
    refine x_iload_n hx hb hl 2 rfl dX5_readFactor_29 rfl ?_
    refine x_bipush hx hb dX5_readFactor_30 (by decide) ?_
    refine x_icmp_lt (tgt := 51) hx hb rq (by decide) dX5_readFactor_32 (by decide) (fun c28 => ?_) (fun c28 => False.elim (by omega))
    refine x_aload_n hx hb hl 1 rfl dX5_readFactor_51 rfl ?_
    refine x_get (j := 0) (v := .ref (h0 + 1)) hx hb hown hT hE hW cls_X5 (Or.inl (by decide)) (so_117 h0 g _) (by decide) rfl wq293 dX5_readFactor_52 ?_
    refine lv_dup hx hb dX5_readFactor_55 rfl ?_
    refine x_getN (j := 3) (v := .int (xJ (s0 1 3))) hx hb hown hT hE hW cls_X8 (Or.inl (by decide)) (so_1 h0 g _) (by decide) rfl wn201 dX5_readFactor_56 ?_
    refine x_rd hW (fun x29 ex29 rx29 => ?_)
    refine x_iconst hx hb dX5_readFactor_59 ?_
    refine x_iadd hx hb dX5_readFactor_60 ?_
    refine x_putN (j := 3) hx hb hown hT hE hW cls_X8 (by decide) (fun σ => so_1 h0 g σ) (by decide) (st_X8_3 h0 s0 1 (x29 + 1)) (ln_X8_3 h0 _ _) wn201 rfl rfl rfl (by omega) dX5_readFactor_61 (fun H locs s30 es30 hW => ?_)
    have q31 : IC s30 := by rw [es30]; exact IC_1 p0 (by omega)
    have q32 : s30 1 1 = s0 1 1 := (show s30 1 1 = s0 1 1 from by rw [es30, xU_j _ _ (by decide)]).trans k1_1
    have hF33 := hF.put es30 (by omega)
    refine x_aload_n hx hb hl 1 rfl dX5_readFactor_64 rfl ?_
    refine x_iload_n hx hb hl 2 rfl dX5_readFactor_65 rfl ?_
    refine x_iconst hx hb dX5_readFactor_66 ?_
    refine x_iadd hx hb dX5_readFactor_67 ?_
    refine x_goi (x_runV (As := [.int (xJ (q + 1))]) hx hb hml hown hT hE hW hl.1 (Or.inl (by decide)) (so_117 h0 g _) rfl cf_X5_readSum wq652 wq16 wq650 (c_X5_readSumL5 l D g T h0 s30 hW.2.1 (q + 1) (by omega) (by omega) q31) ⟨rfl, rfl, ⟨by decide, by decide⟩, ⟨by decide, by decide⟩⟩ rfl rfl (Nat.le_of_ble_eq_true rfl) dX5_readFactor_68) hW (fun x34 s35 H locs rx34 hp36 hW => ?_)
    obtain ⟨fs35, hp36⟩ := hp36
    have hF37 := hF33.call fs35 (fun k h => by omega)
    have ghp36 := hp36.2
    refine x_if_eq (tgt := 90) hx hb rx34 dX5_readFactor_71 (by decide) (fun c38 => ?_) (fun c38 => ?_)
    · skip
      refine x_iconst hx hb dX5_readFactor_90 ?_
      rw [eQ]
      exact x_zret hx hb hr hlk hW (by omega) ⟨hF37, ⟨hp36.1.1, (hp36.1.2.1.trans q32), trivial⟩, by omega⟩ dX5_readFactor_91
    refine x_aload_n hx hb hl 1 rfl dX5_readFactor_74 rfl ?_
    refine x_get (j := 0) (v := .ref (h0 + 1)) hx hb hown hT hE hW cls_X5 (Or.inl (by decide)) (so_117 h0 g _) (by decide) rfl wq293 dX5_readFactor_75 ?_
    refine x_bipush hx hb dX5_readFactor_78 (by decide) ?_
    refine x_goi (x_runVN (As := [.int (xJ 93)]) hx hb hml hown hT hE hW hl.1 (Or.inl (by decide)) (so_1 h0 g _) rfl cf_X8_passes wq598 wq6 wn674 (c_X8_passes l D g T h0 s35 hW.2.1 93 (by decide) hp36.1.1) ⟨rfl, rfl, ⟨by decide, by decide⟩, ⟨by decide, by decide⟩⟩ rfl rfl (Nat.le_of_ble_eq_true rfl) dX5_readFactor_80) hW (fun x39 s40 H locs rx39 hp41 hW => ?_)
    obtain ⟨fs40, hp41⟩ := hp41
    have hF42 := hF37.call fs40 (fun k h => by omega)
    have ghp41 := hp41.2
    refine x_if_eq (tgt := 90) hx hb rx39 dX5_readFactor_83 (by decide) (fun c43 => ?_) (fun c43 => ?_)
    · skip
      refine x_iconst hx hb dX5_readFactor_90 ?_
      rw [eQ]
      exact x_zret hx hb hr hlk hW (by omega) ⟨hF42, ⟨hp41.1.1, (hp41.1.2.1.trans (hp36.1.2.1.trans q32)), trivial⟩, by omega⟩ dX5_readFactor_91
    refine x_iconst hx hb dX5_readFactor_86 ?_
    refine lv_goto (tgt := 91) hx hb dX5_readFactor_87 (by decide) ?_
    rw [eQ]
    exact x_zret hx hb hr hlk hW (by omega) ⟨hF42, ⟨hp41.1.1, (hp41.1.2.1.trans (hp36.1.2.1.trans q32)), trivial⟩, by omega⟩ dX5_readFactor_91
  refine x_aload_n hx hb hl 0 rfl dX5_readFactor_10 rfl ?_
  refine x_goi (x_runV (As := []) hx hb hml hown hT hE hW hl.1 (Or.inl (by decide)) (so_117 h0 g _) rfl cf_X5_readNumber wq668 wq20 wq666 (c_X5_readNumber l D g T h0 s0 hW.2.1 p0) ⟨rfl, rfl, ⟨by decide, by decide⟩, ⟨by decide, by decide⟩⟩ rfl rfl (Nat.le_of_ble_eq_true rfl) dX5_readFactor_11) hW (fun x44 s45 H locs rx44 hp46 hW => ?_)
  obtain ⟨fs45, hp46⟩ := hp46
  have hF47 := hF.call fs45 (fun k h => by omega)
  have ghp46 := hp46.2
  rw [eQ]
  exact x_zret hx hb hr hlk hW (by omega) ⟨hF47, ⟨hp46.1.1, (hp46.1.2.1.trans k1_1), trivial⟩, by omega⟩ dX5_readFactor_14
set_option maxHeartbeats 4000000 in
set_option maxRecDepth 100000 in
theorem c_X5_readTermL4 (l : Launch) (D : va_G) (g : xG) (T : Nat × Nat × Nat) (h0 : Nat) (s0 : xS) (hσ : xRR s0) (q : Int) (rq : xR q) (hq : q = 4) (p0 : IC s0) : Met l yX5_readTerm (xws yX5_readTerm cX5_readTerm 4 (some .boolean)) { frames := 10, cells := 0, slots := 0, locals := 223 } (xP [.ref (h0 + 117), .int (xJ q)] D g T h0 s0) (xQi D g h0 (fun r τ => xFr (fun k => k = 1 ∨ k = 118 ∨ k = 119 ∨ k = 120) s0 τ ∧ (((IC τ) ∧ (τ 1 1 = s0 1 1) ∧ True) ∧ (r = 0 ∨ r = 1)))) 0 0 (xA h0) := by
  refine x_met hσ (by decide) (Nat.le_of_ble_eq_true rfl) ?_
  intro p e s m args below meth c hx hb hr hml hown hT hlk hnm hE hW ls hl
  have hl : lv_has ls 4 [(0, .ref (h0 + 117)), (1, .int (xJ q))] := hl
  obtain ⟨Q, eQ⟩ : ∃ Q, Q = MQ below (xQi D g h0 (fun r τ => xFr (fun k => k = 1 ∨ k = 118 ∨ k = 119 ∨ k = 120) s0 τ ∧ (((IC τ) ∧ (τ 1 1 = s0 1 1) ∧ True) ∧ (r = 0 ∨ r = 1)))) args s 0 0 (xA h0) := ⟨_, rfl⟩
  rw [← eQ]
  generalize hHe : ([] : List Loc) = locs at hW ⊢
  obtain ⟨H, eH⟩ : ∃ H, H = s.heap := ⟨_, rfl⟩
  rw [← eH] at hW ⊢
  have hF : xFr (fun k => k = 1 ∨ k = 118 ∨ k = 119 ∨ k = 120) s0 s0 := xFr.rf
  have k1_1 : s0 1 1 = s0 1 1 := rfl
  refine x_aload_n hx hb hl 0 rfl dX5_readTerm_0 rfl ?_
  refine x_iload_n hx hb hl 1 rfl dX5_readTerm_1 rfl ?_
  refine x_goi (x_runV (As := [.int (xJ q)]) hx hb hml hown hT hE hW hl.1 (Or.inl (by decide)) (so_117 h0 g _) rfl cf_X5_readFactor wq660 wq18 wq658 (c_X5_readFactorL4 l D g T h0 s0 hW.2.1 q rq (by omega) p0) ⟨rfl, rfl, ⟨by decide, by decide⟩, ⟨by decide, by decide⟩⟩ rfl rfl (Nat.le_of_ble_eq_true rfl) dX5_readTerm_2) hW (fun x1 s2 H locs rx1 hp3 hW => ?_)
  obtain ⟨fs2, hp3⟩ := hp3
  have hF4 := hF.call fs2 (fun k h => by omega)
  have ghp3 := hp3.2
  refine x_if_ne (tgt := 10) hx hb rx1 dX5_readTerm_5 (by decide) (fun c5 => ?_) (fun c5 => ?_)
  · skip
    refine x_iconst hx hb dX5_readTerm_10 ?_
    refine lv_istore_n (lv' := [(2, .int (xJ 0)), (0, .ref (h0 + 117)), (1, .int (xJ q))]) hx hb dX5_readTerm_11 rfl hl (by decide) rfl (fun ls hl => ?_)
    have L12 : ∀ (fu : Nat) (i2_12 : Int) (s_12 : xS) (H : Heap) (locs : List Loc) (ls : Array Slot), (xR i2_12) → (xFr (fun k => k = 1 ∨ k = 118 ∨ k = 119 ∨ k = 120) s0 s_12) → (IC s_12) → (s_12 1 1 = s0 1 1) → (0 ≤ i2_12) → (i2_12 ≤ 300) → (300 + 1 - i2_12).toNat < fu → xW D g h0 s H locs s_12 → lv_has ls 4 [(0, .ref (h0 + 117)), (1, .int (xJ q)), (2, .int (xJ i2_12))] → W p l e { frames := 10, cells := 0, slots := 0, locals := 223 } s m args below meth c H locs 0 0 Q (F0 m 12 ls []) := by
      intro fu
      induction fu with
      | zero => intro i2_12 s_12 H locs ls ri2_12 hF_12 q12_0 q12_1 v12_0 v12_1 hm; exact absurd hm (Nat.not_lt_zero _)
      | succ fu ih12 =>
        intro i2_12 s_12 H locs ls ri2_12 hF_12 q12_0 q12_1 v12_0 v12_1 hm hW hl
        refine x_iload_n hx hb hl 2 rfl dX5_readTerm_12 rfl ?_
        refine x_sipush hx hb dX5_readTerm_13 (by decide) ?_
        refine x_icmp_ge (tgt := 86) hx hb ri2_12 (by decide) dX5_readTerm_16 (by decide) (fun c6 => ?_) (fun c6 => ?_)
        · skip
          refine x_iconst hx hb dX5_readTerm_86 ?_
          rw [eQ]
          exact x_zret hx hb hr hlk hW (by omega) ⟨hF_12, ⟨q12_0, q12_1, trivial⟩, by omega⟩ dX5_readTerm_87
        refine x_aload_n hx hb hl 0 rfl dX5_readTerm_19 rfl ?_
        refine x_get (j := 0) (v := .ref (h0 + 1)) hx hb hown hT hE hW cls_X5 (Or.inl (by decide)) (so_117 h0 g _) (by decide) rfl wq293 dX5_readTerm_20 ?_
        refine x_goi (x_runVN (As := []) hx hb hml hown hT hE hW hl.1 (Or.inl (by decide)) (so_1 h0 g _) rfl cf_X8_sign wq581 wq4 wn641 (c_X8_sign l D g T h0 s_12 hW.2.1 q12_0) ⟨rfl, rfl, ⟨by decide, by decide⟩, ⟨by decide, by decide⟩⟩ rfl rfl (Nat.le_of_ble_eq_true rfl) dX5_readTerm_23) hW (fun x7 s8 H locs rx7 hp9 hW => ?_)
        obtain ⟨es8, hp9⟩ := hp9
        subst es8
        have ghp9 := hp9
        refine lv_istore_n (lv' := [(3, .int (xJ x7)), (0, .ref (h0 + 117)), (1, .int (xJ q)), (2, .int (xJ i2_12))]) hx hb dX5_readTerm_26 rfl hl (by decide) rfl (fun ls hl => ?_)
        refine x_iload_n hx hb hl 0 rfl dX5_readTerm_27 rfl ?_
        refine x_bipush hx hb dX5_readTerm_28 (by decide) ?_
        have J47 : ∀ (ls : Array Slot), (x7 ≠ -1) → lv_has ls 4 [(0, .ref (h0 + 117)), (1, .int (xJ q)), (2, .int (xJ i2_12)), (3, .int (xJ x7))] → W p l e { frames := 10, cells := 0, slots := 0, locals := 223 } s m args below meth c H locs 0 0 Q (F0 m 47 ls []) := by
          intro ls v47_0  hl
          refine x_aload_n hx hb hl 0 rfl dX5_readTerm_47 rfl ?_
          refine x_get (j := 0) (v := .ref (h0 + 1)) hx hb hown hT hE hW cls_X5 (Or.inl (by decide)) (so_117 h0 g _) (by decide) rfl wq293 dX5_readTerm_48 ?_
          refine lv_dup hx hb dX5_readTerm_51 rfl ?_
          refine x_getN (j := 3) (v := .int (xJ (s_12 1 3))) hx hb hown hT hE hW cls_X8 (Or.inl (by decide)) (so_1 h0 g _) (by decide) rfl wn201 dX5_readTerm_52 ?_
          refine x_rd hW (fun x10 ex10 rx10 => ?_)
          refine x_iconst hx hb dX5_readTerm_55 ?_
          refine x_iadd hx hb dX5_readTerm_56 ?_
          refine x_putN (j := 3) hx hb hown hT hE hW cls_X8 (by decide) (fun σ => so_1 h0 g σ) (by decide) (st_X8_3 h0 s_12 1 (x10 + 1)) (ln_X8_3 h0 _ _) wn201 rfl rfl rfl (by omega) dX5_readTerm_57 (fun H locs s11 es11 hW => ?_)
          have q12 : IC s11 := by rw [es11]; exact IC_1 q12_0 (by omega)
          have q13 : s11 1 1 = s0 1 1 := (show s11 1 1 = s_12 1 1 from by rw [es11, xU_j _ _ (by decide)]).trans q12_1
          have hF14 := hF_12.put es11 (by omega)
          refine x_aload_n hx hb hl 0 rfl dX5_readTerm_60 rfl ?_
          refine x_iload_n hx hb hl 1 rfl dX5_readTerm_61 rfl ?_
          refine x_goi (x_runV (As := [.int (xJ q)]) hx hb hml hown hT hE hW hl.1 (Or.inl (by decide)) (so_117 h0 g _) rfl cf_X5_readFactor wq660 wq18 wq658 (c_X5_readFactorL4 l D g T h0 s11 hW.2.1 q rq (by omega) q12) ⟨rfl, rfl, ⟨by decide, by decide⟩, ⟨by decide, by decide⟩⟩ rfl rfl (Nat.le_of_ble_eq_true rfl) dX5_readTerm_62) hW (fun x15 s16 H locs rx15 hp17 hW => ?_)
          obtain ⟨fs16, hp17⟩ := hp17
          have hF18 := hF14.call fs16 (fun k h => by omega)
          have ghp17 := hp17.2
          refine x_if_ne (tgt := 70) hx hb rx15 dX5_readTerm_65 (by decide) (fun c19 => ?_) (fun c19 => ?_)
          · skip
            refine x_aload_n hx hb hl 0 rfl dX5_readTerm_70 rfl ?_
            refine x_get (j := 1) (v := .ref (h0 + 118)) hx hb hown hT hE hW cls_X5 (Or.inl (by decide)) (so_117 h0 g _) (by decide) rfl wq294 dX5_readTerm_71 ?_
            refine x_iload_n hx hb hl 3 rfl dX5_readTerm_74 rfl ?_
            refine x_iconst hx hb dX5_readTerm_75 ?_
            refine x_goi (x_runVN (As := [.int (xJ x7), .int (xJ 0)]) hx hb hml hown hT hE hW hl.1 (Or.inl (by decide)) (so_118 h0 g _) rfl cf_X4_put wq672 wq21 wn670 (c_X4_put l D g T h0 s16 hW.2.1 x7 rx7 0 (by decide) hp17.1.1) ⟨rfl, rfl, ⟨by decide, by decide⟩, ⟨by decide, by decide⟩⟩ rfl rfl (Nat.le_of_ble_eq_true rfl) dX5_readTerm_76) hW (fun x20 s21 H locs rx20 hp22 hW => ?_)
            obtain ⟨fs21, hp22⟩ := hp22
            have hF23 := hF18.call fs21 (fun k h => by omega)
            have q24 : s21 1 1 = s0 1 1 := (congrFun (fs21 _ (by omega)) _).trans (hp17.1.2.1.trans q13)
            have ghp22 := hp22.2
            refine lv_pop hx hb dX5_readTerm_79 rfl ?_
            refine x_iinc (lv' := [(2, .int (xJ (i2_12 + 1))), (0, .ref (h0 + 117)), (1, .int (xJ q)), (3, .int (xJ x7))]) hx hb hl 2 rfl dX5_readTerm_80 (by decide) rfl (fun ls hl => ?_)
            refine lv_goto (tgt := 12) hx hb dX5_readTerm_83 (by decide) ?_
            exact ih12 (i2_12 + 1) s21 H locs ls (by omega) hF23 hp22.1.1 q24 (by omega) (by omega) (by omega) hW (lv_sub hl [1, 2, 0] rfl)
          refine x_iconst hx hb dX5_readTerm_68 ?_
          rw [eQ]
          exact x_zret hx hb hr hlk hW (by omega) ⟨hF18, ⟨hp17.1.1, (hp17.1.2.1.trans q13), trivial⟩, by omega⟩ dX5_readTerm_69
        refine x_icmp_eq (tgt := 47) hx hb rx7 (by decide) dX5_readTerm_30 (by decide) (fun c25 => ?_) (fun c25 => ?_)
        · skip
          exact J47 ls (by omega)  (lv_sub hl [1, 2, 3, 0] rfl)
        refine x_iload_n hx hb hl 0 rfl dX5_readTerm_33 rfl ?_
        refine x_bipush hx hb dX5_readTerm_34 (by decide) ?_
        refine x_icmp_eq (tgt := 47) hx hb rx7 (by decide) dX5_readTerm_36 (by decide) (fun c26 => ?_) (fun c26 => ?_)
        · skip
          exact J47 ls (by omega)  (lv_sub hl [1, 2, 3, 0] rfl)
        refine x_iload_n hx hb hl 0 rfl dX5_readTerm_39 rfl ?_
        refine x_bipush hx hb dX5_readTerm_40 (by decide) ?_
        refine x_icmp_eq (tgt := 47) hx hb rx7 (by decide) dX5_readTerm_42 (by decide) (fun c27 => ?_) (fun c27 => ?_)
        · skip
          exact J47 ls (by omega)  (lv_sub hl [1, 2, 3, 0] rfl)
        refine x_iconst hx hb dX5_readTerm_45 ?_
        rw [eQ]
        exact x_zret hx hb hr hlk hW (by omega) ⟨hF_12, ⟨q12_0, q12_1, trivial⟩, by omega⟩ dX5_readTerm_46
    exact L12 ((300 + 1 - 0 : Int).toNat + 1) 0 s2 H locs ls (by decide) hF4 hp3.1.1 (hp3.1.2.1.trans k1_1) (by omega) (by omega) (Nat.lt_succ_self _) hW (lv_sub hl [1, 2, 0] rfl)
  refine x_iconst hx hb dX5_readTerm_8 ?_
  rw [eQ]
  exact x_zret hx hb hr hlk hW (by omega) ⟨hF4, ⟨hp3.1.1, (hp3.1.2.1.trans k1_1), trivial⟩, by omega⟩ dX5_readTerm_9
set_option maxHeartbeats 4000000 in
set_option maxRecDepth 100000 in
theorem c_X5_readSumL4 (l : Launch) (D : va_G) (g : xG) (T : Nat × Nat × Nat) (h0 : Nat) (s0 : xS) (hσ : xRR s0) (q : Int) (rq : xR q) (hq : q = 4) (p0 : IC s0) : Met l yX5_readSum (xws yX5_readSum cX5_readSum 4 (some .boolean)) { frames := 11, cells := 0, slots := 0, locals := 246 } (xP [.ref (h0 + 117), .int (xJ q)] D g T h0 s0) (xQi D g h0 (fun r τ => xFr (fun k => k = 1 ∨ k = 118 ∨ k = 119 ∨ k = 120) s0 τ ∧ (((IC τ) ∧ (τ 1 1 = s0 1 1) ∧ True) ∧ (r = 0 ∨ r = 1)))) 0 0 (xA h0) := by
  refine x_met hσ (by decide) (Nat.le_of_ble_eq_true rfl) ?_
  intro p e s m args below meth c hx hb hr hml hown hT hlk hnm hE hW ls hl
  have hl : lv_has ls 4 [(0, .ref (h0 + 117)), (1, .int (xJ q))] := hl
  obtain ⟨Q, eQ⟩ : ∃ Q, Q = MQ below (xQi D g h0 (fun r τ => xFr (fun k => k = 1 ∨ k = 118 ∨ k = 119 ∨ k = 120) s0 τ ∧ (((IC τ) ∧ (τ 1 1 = s0 1 1) ∧ True) ∧ (r = 0 ∨ r = 1)))) args s 0 0 (xA h0) := ⟨_, rfl⟩
  rw [← eQ]
  generalize hHe : ([] : List Loc) = locs at hW ⊢
  obtain ⟨H, eH⟩ : ∃ H, H = s.heap := ⟨_, rfl⟩
  rw [← eH] at hW ⊢
  have hF : xFr (fun k => k = 1 ∨ k = 118 ∨ k = 119 ∨ k = 120) s0 s0 := xFr.rf
  have k1_1 : s0 1 1 = s0 1 1 := rfl
  refine x_aload_n hx hb hl 0 rfl dX5_readSum_0 rfl ?_
  refine x_iload_n hx hb hl 1 rfl dX5_readSum_1 rfl ?_
  refine x_goi (x_runV (As := [.int (xJ q)]) hx hb hml hown hT hE hW hl.1 (Or.inl (by decide)) (so_117 h0 g _) rfl cf_X5_readTerm wq656 wq17 wq654 (c_X5_readTermL4 l D g T h0 s0 hW.2.1 q rq (by omega) p0) ⟨rfl, rfl, ⟨by decide, by decide⟩, ⟨by decide, by decide⟩⟩ rfl rfl (Nat.le_of_ble_eq_true rfl) dX5_readSum_2) hW (fun x1 s2 H locs rx1 hp3 hW => ?_)
  obtain ⟨fs2, hp3⟩ := hp3
  have hF4 := hF.call fs2 (fun k h => by omega)
  have ghp3 := hp3.2
  refine x_if_ne (tgt := 10) hx hb rx1 dX5_readSum_5 (by decide) (fun c5 => ?_) (fun c5 => ?_)
  · skip
    refine x_iconst hx hb dX5_readSum_10 ?_
    refine lv_istore_n (lv' := [(2, .int (xJ 0)), (0, .ref (h0 + 117)), (1, .int (xJ q))]) hx hb dX5_readSum_11 rfl hl (by decide) rfl (fun ls hl => ?_)
    have L12 : ∀ (fu : Nat) (i2_12 : Int) (s_12 : xS) (H : Heap) (locs : List Loc) (ls : Array Slot), (xR i2_12) → (xFr (fun k => k = 1 ∨ k = 118 ∨ k = 119 ∨ k = 120) s0 s_12) → (IC s_12) → (s_12 1 1 = s0 1 1) → (0 ≤ i2_12) → (i2_12 ≤ 300) → (300 + 1 - i2_12).toNat < fu → xW D g h0 s H locs s_12 → lv_has ls 4 [(0, .ref (h0 + 117)), (1, .int (xJ q)), (2, .int (xJ i2_12))] → W p l e { frames := 11, cells := 0, slots := 0, locals := 246 } s m args below meth c H locs 0 0 Q (F0 m 12 ls []) := by
      intro fu
      induction fu with
      | zero => intro i2_12 s_12 H locs ls ri2_12 hF_12 q12_0 q12_1 v12_0 v12_1 hm; exact absurd hm (Nat.not_lt_zero _)
      | succ fu ih12 =>
        intro i2_12 s_12 H locs ls ri2_12 hF_12 q12_0 q12_1 v12_0 v12_1 hm hW hl
        refine x_iload_n hx hb hl 2 rfl dX5_readSum_12 rfl ?_
        refine x_sipush hx hb dX5_readSum_13 (by decide) ?_
        refine x_icmp_ge (tgt := 80) hx hb ri2_12 (by decide) dX5_readSum_16 (by decide) (fun c6 => ?_) (fun c6 => ?_)
        · skip
          refine x_iconst hx hb dX5_readSum_80 ?_
          rw [eQ]
          exact x_zret hx hb hr hlk hW (by omega) ⟨hF_12, ⟨q12_0, q12_1, trivial⟩, by omega⟩ dX5_readSum_81
        refine x_aload_n hx hb hl 0 rfl dX5_readSum_19 rfl ?_
        refine x_get (j := 0) (v := .ref (h0 + 1)) hx hb hown hT hE hW cls_X5 (Or.inl (by decide)) (so_117 h0 g _) (by decide) rfl wq293 dX5_readSum_20 ?_
        refine x_goi (x_runVN (As := []) hx hb hml hown hT hE hW hl.1 (Or.inl (by decide)) (so_1 h0 g _) rfl cf_X8_sign wq581 wq4 wn641 (c_X8_sign l D g T h0 s_12 hW.2.1 q12_0) ⟨rfl, rfl, ⟨by decide, by decide⟩, ⟨by decide, by decide⟩⟩ rfl rfl (Nat.le_of_ble_eq_true rfl) dX5_readSum_23) hW (fun x7 s8 H locs rx7 hp9 hW => ?_)
        obtain ⟨es8, hp9⟩ := hp9
        subst es8
        have ghp9 := hp9
        refine lv_istore_n (lv' := [(3, .int (xJ x7)), (0, .ref (h0 + 117)), (1, .int (xJ q)), (2, .int (xJ i2_12))]) hx hb dX5_readSum_26 rfl hl (by decide) rfl (fun ls hl => ?_)
        refine x_iload_n hx hb hl 0 rfl dX5_readSum_27 rfl ?_
        refine x_bipush hx hb dX5_readSum_28 (by decide) ?_
        have J41 : ∀ (ls : Array Slot), (x7 ≠ -1) → lv_has ls 4 [(0, .ref (h0 + 117)), (1, .int (xJ q)), (2, .int (xJ i2_12)), (3, .int (xJ x7))] → W p l e { frames := 11, cells := 0, slots := 0, locals := 246 } s m args below meth c H locs 0 0 Q (F0 m 41 ls []) := by
          intro ls v41_0  hl
          refine x_aload_n hx hb hl 0 rfl dX5_readSum_41 rfl ?_
          refine x_get (j := 0) (v := .ref (h0 + 1)) hx hb hown hT hE hW cls_X5 (Or.inl (by decide)) (so_117 h0 g _) (by decide) rfl wq293 dX5_readSum_42 ?_
          refine lv_dup hx hb dX5_readSum_45 rfl ?_
          refine x_getN (j := 3) (v := .int (xJ (s_12 1 3))) hx hb hown hT hE hW cls_X8 (Or.inl (by decide)) (so_1 h0 g _) (by decide) rfl wn201 dX5_readSum_46 ?_
          refine x_rd hW (fun x10 ex10 rx10 => ?_)
          refine x_iconst hx hb dX5_readSum_49 ?_
          refine x_iadd hx hb dX5_readSum_50 ?_
          refine x_putN (j := 3) hx hb hown hT hE hW cls_X8 (by decide) (fun σ => so_1 h0 g σ) (by decide) (st_X8_3 h0 s_12 1 (x10 + 1)) (ln_X8_3 h0 _ _) wn201 rfl rfl rfl (by omega) dX5_readSum_51 (fun H locs s11 es11 hW => ?_)
          have q12 : IC s11 := by rw [es11]; exact IC_1 q12_0 (by omega)
          have q13 : s11 1 1 = s0 1 1 := (show s11 1 1 = s_12 1 1 from by rw [es11, xU_j _ _ (by decide)]).trans q12_1
          have hF14 := hF_12.put es11 (by omega)
          refine x_aload_n hx hb hl 0 rfl dX5_readSum_54 rfl ?_
          refine x_iload_n hx hb hl 1 rfl dX5_readSum_55 rfl ?_
          refine x_goi (x_runV (As := [.int (xJ q)]) hx hb hml hown hT hE hW hl.1 (Or.inl (by decide)) (so_117 h0 g _) rfl cf_X5_readTerm wq656 wq17 wq654 (c_X5_readTermL4 l D g T h0 s11 hW.2.1 q rq (by omega) q12) ⟨rfl, rfl, ⟨by decide, by decide⟩, ⟨by decide, by decide⟩⟩ rfl rfl (Nat.le_of_ble_eq_true rfl) dX5_readSum_56) hW (fun x15 s16 H locs rx15 hp17 hW => ?_)
          obtain ⟨fs16, hp17⟩ := hp17
          have hF18 := hF14.call fs16 (fun k h => by omega)
          have ghp17 := hp17.2
          refine x_if_ne (tgt := 64) hx hb rx15 dX5_readSum_59 (by decide) (fun c19 => ?_) (fun c19 => ?_)
          · skip
            refine x_aload_n hx hb hl 0 rfl dX5_readSum_64 rfl ?_
            refine x_get (j := 1) (v := .ref (h0 + 118)) hx hb hown hT hE hW cls_X5 (Or.inl (by decide)) (so_117 h0 g _) (by decide) rfl wq294 dX5_readSum_65 ?_
            refine x_iload_n hx hb hl 3 rfl dX5_readSum_68 rfl ?_
            refine x_iconst hx hb dX5_readSum_69 ?_
            refine x_goi (x_runVN (As := [.int (xJ x7), .int (xJ 0)]) hx hb hml hown hT hE hW hl.1 (Or.inl (by decide)) (so_118 h0 g _) rfl cf_X4_put wq672 wq21 wn670 (c_X4_put l D g T h0 s16 hW.2.1 x7 rx7 0 (by decide) hp17.1.1) ⟨rfl, rfl, ⟨by decide, by decide⟩, ⟨by decide, by decide⟩⟩ rfl rfl (Nat.le_of_ble_eq_true rfl) dX5_readSum_70) hW (fun x20 s21 H locs rx20 hp22 hW => ?_)
            obtain ⟨fs21, hp22⟩ := hp22
            have hF23 := hF18.call fs21 (fun k h => by omega)
            have q24 : s21 1 1 = s0 1 1 := (congrFun (fs21 _ (by omega)) _).trans (hp17.1.2.1.trans q13)
            have ghp22 := hp22.2
            refine lv_pop hx hb dX5_readSum_73 rfl ?_
            refine x_iinc (lv' := [(2, .int (xJ (i2_12 + 1))), (0, .ref (h0 + 117)), (1, .int (xJ q)), (3, .int (xJ x7))]) hx hb hl 2 rfl dX5_readSum_74 (by decide) rfl (fun ls hl => ?_)
            refine lv_goto (tgt := 12) hx hb dX5_readSum_77 (by decide) ?_
            exact ih12 (i2_12 + 1) s21 H locs ls (by omega) hF23 hp22.1.1 q24 (by omega) (by omega) (by omega) hW (lv_sub hl [1, 2, 0] rfl)
          refine x_iconst hx hb dX5_readSum_62 ?_
          rw [eQ]
          exact x_zret hx hb hr hlk hW (by omega) ⟨hF18, ⟨hp17.1.1, (hp17.1.2.1.trans q13), trivial⟩, by omega⟩ dX5_readSum_63
        refine x_icmp_eq (tgt := 41) hx hb rx7 (by decide) dX5_readSum_30 (by decide) (fun c25 => ?_) (fun c25 => ?_)
        · skip
          exact J41 ls (by omega)  (lv_sub hl [1, 2, 3, 0] rfl)
        refine x_iload_n hx hb hl 0 rfl dX5_readSum_33 rfl ?_
        refine x_bipush hx hb dX5_readSum_34 (by decide) ?_
        refine x_icmp_eq (tgt := 41) hx hb rx7 (by decide) dX5_readSum_36 (by decide) (fun c26 => ?_) (fun c26 => ?_)
        · skip
          exact J41 ls (by omega)  (lv_sub hl [1, 2, 3, 0] rfl)
        refine x_iconst hx hb dX5_readSum_39 ?_
        rw [eQ]
        exact x_zret hx hb hr hlk hW (by omega) ⟨hF_12, ⟨q12_0, q12_1, trivial⟩, by omega⟩ dX5_readSum_40
    exact L12 ((300 + 1 - 0 : Int).toNat + 1) 0 s2 H locs ls (by decide) hF4 hp3.1.1 (hp3.1.2.1.trans k1_1) (by omega) (by omega) (Nat.lt_succ_self _) hW (lv_sub hl [1, 2, 0] rfl)
  refine x_iconst hx hb dX5_readSum_8 ?_
  rw [eQ]
  exact x_zret hx hb hr hlk hW (by omega) ⟨hF4, ⟨hp3.1.1, (hp3.1.2.1.trans k1_1), trivial⟩, by omega⟩ dX5_readSum_9
set_option maxHeartbeats 4000000 in
set_option maxRecDepth 100000 in
theorem c_X5_readFactorL3 (l : Launch) (D : va_G) (g : xG) (T : Nat × Nat × Nat) (h0 : Nat) (s0 : xS) (hσ : xRR s0) (q : Int) (rq : xR q) (hq : q = 3) (p0 : IC s0) : Met l yX5_readFactor (xws yX5_readFactor cX5_readFactor 4 (some .boolean)) { frames := 12, cells := 0, slots := 0, locals := 269 } (xP [.ref (h0 + 117), .int (xJ q)] D g T h0 s0) (xQi D g h0 (fun r τ => xFr (fun k => k = 1 ∨ k = 118 ∨ k = 119 ∨ k = 120) s0 τ ∧ (((IC τ) ∧ (τ 1 1 = s0 1 1) ∧ True) ∧ (r = 0 ∨ r = 1)))) 0 0 (xA h0) := by
  refine x_met hσ (by decide) (Nat.le_of_ble_eq_true rfl) ?_
  intro p e s m args below meth c hx hb hr hml hown hT hlk hnm hE hW ls hl
  have hl : lv_has ls 4 [(0, .ref (h0 + 117)), (1, .int (xJ q))] := hl
  obtain ⟨Q, eQ⟩ : ∃ Q, Q = MQ below (xQi D g h0 (fun r τ => xFr (fun k => k = 1 ∨ k = 118 ∨ k = 119 ∨ k = 120) s0 τ ∧ (((IC τ) ∧ (τ 1 1 = s0 1 1) ∧ True) ∧ (r = 0 ∨ r = 1)))) args s 0 0 (xA h0) := ⟨_, rfl⟩
  rw [← eQ]
  generalize hHe : ([] : List Loc) = locs at hW ⊢
  obtain ⟨H, eH⟩ : ∃ H, H = s.heap := ⟨_, rfl⟩
  rw [← eH] at hW ⊢
  have hF : xFr (fun k => k = 1 ∨ k = 118 ∨ k = 119 ∨ k = 120) s0 s0 := xFr.rf
  have k1_1 : s0 1 1 = s0 1 1 := rfl
  refine x_aload_n hx hb hl 0 rfl dX5_readFactor_0 rfl ?_
  refine x_get (j := 0) (v := .ref (h0 + 1)) hx hb hown hT hE hW cls_X5 (Or.inl (by decide)) (so_117 h0 g _) (by decide) rfl wq293 dX5_readFactor_1 ?_
  refine x_goi (x_runVN (As := []) hx hb hml hown hT hE hW hl.1 (Or.inl (by decide)) (so_1 h0 g _) rfl cf_X8_isDigit wq664 wq19 wn662 (c_X8_isDigit l D g T h0 s0 hW.2.1 p0) ⟨rfl, rfl, ⟨by decide, by decide⟩, ⟨by decide, by decide⟩⟩ rfl rfl (Nat.le_of_ble_eq_true rfl) dX5_readFactor_4) hW (fun x1 s2 H locs rx1 hp3 hW => ?_)
  obtain ⟨es2, hp3⟩ := hp3
  subst es2
  have ghp3 := hp3
  refine x_if_eq (tgt := 15) hx hb rx1 dX5_readFactor_7 (by decide) (fun c4 => ?_) (fun c4 => ?_)
  · skip
    refine x_aload_n hx hb hl 0 rfl dX5_readFactor_15 rfl ?_
    refine x_get (j := 0) (v := .ref (h0 + 1)) hx hb hown hT hE hW cls_X5 (Or.inl (by decide)) (so_117 h0 g _) (by decide) rfl wq293 dX5_readFactor_16 ?_
    refine x_goi (x_runVN (As := []) hx hb hml hown hT hE hW hl.1 (Or.inl (by decide)) (so_1 h0 g _) rfl cf_X8_sign wq581 wq4 wn641 (c_X8_sign l D g T h0 s0 hW.2.1 p0) ⟨rfl, rfl, ⟨by decide, by decide⟩, ⟨by decide, by decide⟩⟩ rfl rfl (Nat.le_of_ble_eq_true rfl) dX5_readFactor_19) hW (fun x5 s6 H locs rx5 hp7 hW => ?_)
    obtain ⟨es6, hp7⟩ := hp7
    subst es6
    have ghp7 := hp7
    refine lv_istore_n (lv' := [(2, .int (xJ x5)), (0, .ref (h0 + 117)), (1, .int (xJ q))]) hx hb dX5_readFactor_22 rfl hl (by decide) rfl (fun ls hl => ?_)
    refine x_iload_n hx hb hl 0 rfl dX5_readFactor_23 rfl ?_
    refine x_bipush hx hb dX5_readFactor_24 (by decide) ?_
    refine x_icmp_ne (tgt := 92) hx hb rx5 (by decide) dX5_readFactor_26 (by decide) (fun c8 => ?_) (fun c8 => ?_)
    · skip
      refine x_iload_n hx hb hl 0 rfl dX5_readFactor_92 rfl ?_
      refine x_goi (x_runSN (As := [.int (xJ x5)]) hx hb hml hown hT hE hW hl.1 cf_X4_placeOfLetter wq676 wn675 (c_X4_placeOfLetter l D g T h0 s0 hW.2.1 x5 rx5) ⟨rfl, rfl, ⟨by decide, by decide⟩, ⟨by decide, by decide⟩⟩ rfl rfl (Nat.le_of_ble_eq_true rfl) dX5_readFactor_93) hW (fun x9 s10 H locs rx9 hp11 hW => ?_)
      obtain ⟨es10, hp11⟩ := hp11
      subst es10
      have ghp11 := hp11
      refine lv_istore_n (lv' := [(3, .int (xJ x9)), (2, .int (xJ x5)), (0, .ref (h0 + 117)), (1, .int (xJ q))]) hx hb dX5_readFactor_96 rfl hl (by decide) rfl (fun ls hl => ?_)
      refine x_iload_n hx hb hl 0 rfl dX5_readFactor_97 rfl ?_
      refine x_iconst hx hb dX5_readFactor_98 ?_
      refine x_icmp_ne (tgt := 118) hx hb rx9 (by decide) dX5_readFactor_99 (by decide) (fun c12 => ?_) (fun c12 => ?_)
      · skip
        refine x_aload_n hx hb hl 2 rfl dX5_readFactor_118 rfl ?_
        refine x_get (j := 0) (v := .ref (h0 + 1)) hx hb hown hT hE hW cls_X5 (Or.inl (by decide)) (so_117 h0 g _) (by decide) rfl wq293 dX5_readFactor_119 ?_
        refine lv_dup hx hb dX5_readFactor_122 rfl ?_
        refine x_getN (j := 3) (v := .int (xJ (s0 1 3))) hx hb hown hT hE hW cls_X8 (Or.inl (by decide)) (so_1 h0 g _) (by decide) rfl wn201 dX5_readFactor_123 ?_
        refine x_rd hW (fun x13 ex13 rx13 => ?_)
        refine x_iconst hx hb dX5_readFactor_126 ?_
        refine x_iadd hx hb dX5_readFactor_127 ?_
        refine x_putN (j := 3) hx hb hown hT hE hW cls_X8 (by decide) (fun σ => so_1 h0 g σ) (by decide) (st_X8_3 h0 s0 1 (x13 + 1)) (ln_X8_3 h0 _ _) wn201 rfl rfl rfl (by omega) dX5_readFactor_128 (fun H locs s14 es14 hW => ?_)
        have q15 : IC s14 := by rw [es14]; exact IC_1 p0 (by omega)
        have q16 : s14 1 1 = s0 1 1 := (show s14 1 1 = s0 1 1 from by rw [es14, xU_j _ _ (by decide)]).trans k1_1
        have hF17 := hF.put es14 (by omega)
        refine x_aload_n hx hb hl 2 rfl dX5_readFactor_131 rfl ?_
        refine x_get (j := 1) (v := .ref (h0 + 118)) hx hb hown hT hE hW cls_X5 (Or.inl (by decide)) (so_117 h0 g _) (by decide) rfl wq294 dX5_readFactor_132 ?_
        refine x_iconst hx hb dX5_readFactor_135 ?_
        refine x_iload_n hx hb hl 0 rfl dX5_readFactor_136 rfl ?_
        refine x_goi (x_runVN (As := [.int (xJ 2), .int (xJ x9)]) hx hb hml hown hT hE hW hl.1 (Or.inl (by decide)) (so_118 h0 g _) rfl cf_X4_put wq672 wq21 wn670 (c_X4_put l D g T h0 s14 hW.2.1 2 (by decide) x9 rx9 q15) ⟨rfl, rfl, ⟨by decide, by decide⟩, ⟨by decide, by decide⟩⟩ rfl rfl (Nat.le_of_ble_eq_true rfl) dX5_readFactor_137) hW (fun x18 s19 H locs rx18 hp20 hW => ?_)
        obtain ⟨fs19, hp20⟩ := hp20
        have hF21 := hF17.call fs19 (fun k h => by omega)
        have q22 : s19 1 1 = s0 1 1 := (congrFun (fs19 _ (by omega)) _).trans q16
        have ghp20 := hp20.2
        refine lv_pop hx hb dX5_readFactor_140 rfl ?_
        refine x_iconst hx hb dX5_readFactor_141 ?_
        rw [eQ]
        exact x_zret hx hb hr hlk hW (by omega) ⟨hF21, ⟨hp20.1.1, q22, trivial⟩, by omega⟩ dX5_readFactor_142
      refine x_aload_n hx hb hl 2 rfl dX5_readFactor_102 rfl ?_
      refine x_get (j := 0) (v := .ref (h0 + 1)) hx hb hown hT hE hW cls_X5 (Or.inl (by decide)) (so_117 h0 g _) (by decide) rfl wq293 dX5_readFactor_103 ?_
      refine x_iconst hx hb dX5_readFactor_106 ?_
      refine x_aload_n hx hb hl 2 rfl dX5_readFactor_107 rfl ?_
      refine x_get (j := 0) (v := .ref (h0 + 1)) hx hb hown hT hE hW cls_X5 (Or.inl (by decide)) (so_117 h0 g _) (by decide) rfl wq293 dX5_readFactor_108 ?_
      refine x_getN (j := 3) (v := .int (xJ (s0 1 3))) hx hb hown hT hE hW cls_X8 (Or.inl (by decide)) (so_1 h0 g _) (by decide) rfl wn201 dX5_readFactor_111 ?_
      refine x_rd hW (fun x23 ex23 rx23 => ?_)
      refine x_goi (x_runVN (As := [.int (xJ 1), .int (xJ x23)]) hx hb hml hown hT hE hW hl.1 (Or.inl (by decide)) (so_1 h0 g _) rfl cf_X8_fails wq588 wq5 wn645 (c_X8_fails l D g T h0 s0 hW.2.1 1 (by decide) x23 rx23 p0) ⟨rfl, rfl, ⟨by decide, by decide⟩, ⟨by decide, by decide⟩⟩ rfl rfl (Nat.le_of_ble_eq_true rfl) dX5_readFactor_114) hW (fun x24 s25 H locs rx24 hp26 hW => ?_)
      obtain ⟨fs25, hp26⟩ := hp26
      have hF27 := hF.call fs25 (fun k h => by omega)
      have ghp26 := hp26.2
      rw [eQ]
      exact x_zret hx hb hr hlk hW (by omega) ⟨hF27, ⟨hp26.1.1, (hp26.1.2.1.trans k1_1), trivial⟩, by omega⟩ dX5_readFactor_117
    refine x_iload_n hx hb hl 2 rfl dX5_readFactor_29 rfl ?_
    refine x_bipush hx hb dX5_readFactor_30 (by decide) ?_
    refine x_icmp_lt (tgt := 51) hx hb rq (by decide) dX5_readFactor_32 (by decide) (fun c28 => ?_) (fun c28 => False.elim (by omega))
    refine x_aload_n hx hb hl 1 rfl dX5_readFactor_51 rfl ?_
    refine x_get (j := 0) (v := .ref (h0 + 1)) hx hb hown hT hE hW cls_X5 (Or.inl (by decide)) (so_117 h0 g _) (by decide) rfl wq293 dX5_readFactor_52 ?_
    refine lv_dup hx hb dX5_readFactor_55 rfl ?_
    refine x_getN (j := 3) (v := .int (xJ (s0 1 3))) hx hb hown hT hE hW cls_X8 (Or.inl (by decide)) (so_1 h0 g _) (by decide) rfl wn201 dX5_readFactor_56 ?_
    refine x_rd hW (fun x29 ex29 rx29 => ?_)
    refine x_iconst hx hb dX5_readFactor_59 ?_
    refine x_iadd hx hb dX5_readFactor_60 ?_
    refine x_putN (j := 3) hx hb hown hT hE hW cls_X8 (by decide) (fun σ => so_1 h0 g σ) (by decide) (st_X8_3 h0 s0 1 (x29 + 1)) (ln_X8_3 h0 _ _) wn201 rfl rfl rfl (by omega) dX5_readFactor_61 (fun H locs s30 es30 hW => ?_)
    have q31 : IC s30 := by rw [es30]; exact IC_1 p0 (by omega)
    have q32 : s30 1 1 = s0 1 1 := (show s30 1 1 = s0 1 1 from by rw [es30, xU_j _ _ (by decide)]).trans k1_1
    have hF33 := hF.put es30 (by omega)
    refine x_aload_n hx hb hl 1 rfl dX5_readFactor_64 rfl ?_
    refine x_iload_n hx hb hl 2 rfl dX5_readFactor_65 rfl ?_
    refine x_iconst hx hb dX5_readFactor_66 ?_
    refine x_iadd hx hb dX5_readFactor_67 ?_
    refine x_goi (x_runV (As := [.int (xJ (q + 1))]) hx hb hml hown hT hE hW hl.1 (Or.inl (by decide)) (so_117 h0 g _) rfl cf_X5_readSum wq652 wq16 wq650 (c_X5_readSumL4 l D g T h0 s30 hW.2.1 (q + 1) (by omega) (by omega) q31) ⟨rfl, rfl, ⟨by decide, by decide⟩, ⟨by decide, by decide⟩⟩ rfl rfl (Nat.le_of_ble_eq_true rfl) dX5_readFactor_68) hW (fun x34 s35 H locs rx34 hp36 hW => ?_)
    obtain ⟨fs35, hp36⟩ := hp36
    have hF37 := hF33.call fs35 (fun k h => by omega)
    have ghp36 := hp36.2
    refine x_if_eq (tgt := 90) hx hb rx34 dX5_readFactor_71 (by decide) (fun c38 => ?_) (fun c38 => ?_)
    · skip
      refine x_iconst hx hb dX5_readFactor_90 ?_
      rw [eQ]
      exact x_zret hx hb hr hlk hW (by omega) ⟨hF37, ⟨hp36.1.1, (hp36.1.2.1.trans q32), trivial⟩, by omega⟩ dX5_readFactor_91
    refine x_aload_n hx hb hl 1 rfl dX5_readFactor_74 rfl ?_
    refine x_get (j := 0) (v := .ref (h0 + 1)) hx hb hown hT hE hW cls_X5 (Or.inl (by decide)) (so_117 h0 g _) (by decide) rfl wq293 dX5_readFactor_75 ?_
    refine x_bipush hx hb dX5_readFactor_78 (by decide) ?_
    refine x_goi (x_runVN (As := [.int (xJ 93)]) hx hb hml hown hT hE hW hl.1 (Or.inl (by decide)) (so_1 h0 g _) rfl cf_X8_passes wq598 wq6 wn674 (c_X8_passes l D g T h0 s35 hW.2.1 93 (by decide) hp36.1.1) ⟨rfl, rfl, ⟨by decide, by decide⟩, ⟨by decide, by decide⟩⟩ rfl rfl (Nat.le_of_ble_eq_true rfl) dX5_readFactor_80) hW (fun x39 s40 H locs rx39 hp41 hW => ?_)
    obtain ⟨fs40, hp41⟩ := hp41
    have hF42 := hF37.call fs40 (fun k h => by omega)
    have ghp41 := hp41.2
    refine x_if_eq (tgt := 90) hx hb rx39 dX5_readFactor_83 (by decide) (fun c43 => ?_) (fun c43 => ?_)
    · skip
      refine x_iconst hx hb dX5_readFactor_90 ?_
      rw [eQ]
      exact x_zret hx hb hr hlk hW (by omega) ⟨hF42, ⟨hp41.1.1, (hp41.1.2.1.trans (hp36.1.2.1.trans q32)), trivial⟩, by omega⟩ dX5_readFactor_91
    refine x_iconst hx hb dX5_readFactor_86 ?_
    refine lv_goto (tgt := 91) hx hb dX5_readFactor_87 (by decide) ?_
    rw [eQ]
    exact x_zret hx hb hr hlk hW (by omega) ⟨hF42, ⟨hp41.1.1, (hp41.1.2.1.trans (hp36.1.2.1.trans q32)), trivial⟩, by omega⟩ dX5_readFactor_91
  refine x_aload_n hx hb hl 0 rfl dX5_readFactor_10 rfl ?_
  refine x_goi (x_runV (As := []) hx hb hml hown hT hE hW hl.1 (Or.inl (by decide)) (so_117 h0 g _) rfl cf_X5_readNumber wq668 wq20 wq666 (c_X5_readNumber l D g T h0 s0 hW.2.1 p0) ⟨rfl, rfl, ⟨by decide, by decide⟩, ⟨by decide, by decide⟩⟩ rfl rfl (Nat.le_of_ble_eq_true rfl) dX5_readFactor_11) hW (fun x44 s45 H locs rx44 hp46 hW => ?_)
  obtain ⟨fs45, hp46⟩ := hp46
  have hF47 := hF.call fs45 (fun k h => by omega)
  have ghp46 := hp46.2
  rw [eQ]
  exact x_zret hx hb hr hlk hW (by omega) ⟨hF47, ⟨hp46.1.1, (hp46.1.2.1.trans k1_1), trivial⟩, by omega⟩ dX5_readFactor_14
set_option maxHeartbeats 4000000 in
set_option maxRecDepth 100000 in
theorem c_X5_readTermL3 (l : Launch) (D : va_G) (g : xG) (T : Nat × Nat × Nat) (h0 : Nat) (s0 : xS) (hσ : xRR s0) (q : Int) (rq : xR q) (hq : q = 3) (p0 : IC s0) : Met l yX5_readTerm (xws yX5_readTerm cX5_readTerm 4 (some .boolean)) { frames := 13, cells := 0, slots := 0, locals := 292 } (xP [.ref (h0 + 117), .int (xJ q)] D g T h0 s0) (xQi D g h0 (fun r τ => xFr (fun k => k = 1 ∨ k = 118 ∨ k = 119 ∨ k = 120) s0 τ ∧ (((IC τ) ∧ (τ 1 1 = s0 1 1) ∧ True) ∧ (r = 0 ∨ r = 1)))) 0 0 (xA h0) := by
  refine x_met hσ (by decide) (Nat.le_of_ble_eq_true rfl) ?_
  intro p e s m args below meth c hx hb hr hml hown hT hlk hnm hE hW ls hl
  have hl : lv_has ls 4 [(0, .ref (h0 + 117)), (1, .int (xJ q))] := hl
  obtain ⟨Q, eQ⟩ : ∃ Q, Q = MQ below (xQi D g h0 (fun r τ => xFr (fun k => k = 1 ∨ k = 118 ∨ k = 119 ∨ k = 120) s0 τ ∧ (((IC τ) ∧ (τ 1 1 = s0 1 1) ∧ True) ∧ (r = 0 ∨ r = 1)))) args s 0 0 (xA h0) := ⟨_, rfl⟩
  rw [← eQ]
  generalize hHe : ([] : List Loc) = locs at hW ⊢
  obtain ⟨H, eH⟩ : ∃ H, H = s.heap := ⟨_, rfl⟩
  rw [← eH] at hW ⊢
  have hF : xFr (fun k => k = 1 ∨ k = 118 ∨ k = 119 ∨ k = 120) s0 s0 := xFr.rf
  have k1_1 : s0 1 1 = s0 1 1 := rfl
  refine x_aload_n hx hb hl 0 rfl dX5_readTerm_0 rfl ?_
  refine x_iload_n hx hb hl 1 rfl dX5_readTerm_1 rfl ?_
  refine x_goi (x_runV (As := [.int (xJ q)]) hx hb hml hown hT hE hW hl.1 (Or.inl (by decide)) (so_117 h0 g _) rfl cf_X5_readFactor wq660 wq18 wq658 (c_X5_readFactorL3 l D g T h0 s0 hW.2.1 q rq (by omega) p0) ⟨rfl, rfl, ⟨by decide, by decide⟩, ⟨by decide, by decide⟩⟩ rfl rfl (Nat.le_of_ble_eq_true rfl) dX5_readTerm_2) hW (fun x1 s2 H locs rx1 hp3 hW => ?_)
  obtain ⟨fs2, hp3⟩ := hp3
  have hF4 := hF.call fs2 (fun k h => by omega)
  have ghp3 := hp3.2
  refine x_if_ne (tgt := 10) hx hb rx1 dX5_readTerm_5 (by decide) (fun c5 => ?_) (fun c5 => ?_)
  · skip
    refine x_iconst hx hb dX5_readTerm_10 ?_
    refine lv_istore_n (lv' := [(2, .int (xJ 0)), (0, .ref (h0 + 117)), (1, .int (xJ q))]) hx hb dX5_readTerm_11 rfl hl (by decide) rfl (fun ls hl => ?_)
    have L12 : ∀ (fu : Nat) (i2_12 : Int) (s_12 : xS) (H : Heap) (locs : List Loc) (ls : Array Slot), (xR i2_12) → (xFr (fun k => k = 1 ∨ k = 118 ∨ k = 119 ∨ k = 120) s0 s_12) → (IC s_12) → (s_12 1 1 = s0 1 1) → (0 ≤ i2_12) → (i2_12 ≤ 300) → (300 + 1 - i2_12).toNat < fu → xW D g h0 s H locs s_12 → lv_has ls 4 [(0, .ref (h0 + 117)), (1, .int (xJ q)), (2, .int (xJ i2_12))] → W p l e { frames := 13, cells := 0, slots := 0, locals := 292 } s m args below meth c H locs 0 0 Q (F0 m 12 ls []) := by
      intro fu
      induction fu with
      | zero => intro i2_12 s_12 H locs ls ri2_12 hF_12 q12_0 q12_1 v12_0 v12_1 hm; exact absurd hm (Nat.not_lt_zero _)
      | succ fu ih12 =>
        intro i2_12 s_12 H locs ls ri2_12 hF_12 q12_0 q12_1 v12_0 v12_1 hm hW hl
        refine x_iload_n hx hb hl 2 rfl dX5_readTerm_12 rfl ?_
        refine x_sipush hx hb dX5_readTerm_13 (by decide) ?_
        refine x_icmp_ge (tgt := 86) hx hb ri2_12 (by decide) dX5_readTerm_16 (by decide) (fun c6 => ?_) (fun c6 => ?_)
        · skip
          refine x_iconst hx hb dX5_readTerm_86 ?_
          rw [eQ]
          exact x_zret hx hb hr hlk hW (by omega) ⟨hF_12, ⟨q12_0, q12_1, trivial⟩, by omega⟩ dX5_readTerm_87
        refine x_aload_n hx hb hl 0 rfl dX5_readTerm_19 rfl ?_
        refine x_get (j := 0) (v := .ref (h0 + 1)) hx hb hown hT hE hW cls_X5 (Or.inl (by decide)) (so_117 h0 g _) (by decide) rfl wq293 dX5_readTerm_20 ?_
        refine x_goi (x_runVN (As := []) hx hb hml hown hT hE hW hl.1 (Or.inl (by decide)) (so_1 h0 g _) rfl cf_X8_sign wq581 wq4 wn641 (c_X8_sign l D g T h0 s_12 hW.2.1 q12_0) ⟨rfl, rfl, ⟨by decide, by decide⟩, ⟨by decide, by decide⟩⟩ rfl rfl (Nat.le_of_ble_eq_true rfl) dX5_readTerm_23) hW (fun x7 s8 H locs rx7 hp9 hW => ?_)
        obtain ⟨es8, hp9⟩ := hp9
        subst es8
        have ghp9 := hp9
        refine lv_istore_n (lv' := [(3, .int (xJ x7)), (0, .ref (h0 + 117)), (1, .int (xJ q)), (2, .int (xJ i2_12))]) hx hb dX5_readTerm_26 rfl hl (by decide) rfl (fun ls hl => ?_)
        refine x_iload_n hx hb hl 0 rfl dX5_readTerm_27 rfl ?_
        refine x_bipush hx hb dX5_readTerm_28 (by decide) ?_
        have J47 : ∀ (ls : Array Slot), (x7 ≠ -1) → lv_has ls 4 [(0, .ref (h0 + 117)), (1, .int (xJ q)), (2, .int (xJ i2_12)), (3, .int (xJ x7))] → W p l e { frames := 13, cells := 0, slots := 0, locals := 292 } s m args below meth c H locs 0 0 Q (F0 m 47 ls []) := by
          intro ls v47_0  hl
          refine x_aload_n hx hb hl 0 rfl dX5_readTerm_47 rfl ?_
          refine x_get (j := 0) (v := .ref (h0 + 1)) hx hb hown hT hE hW cls_X5 (Or.inl (by decide)) (so_117 h0 g _) (by decide) rfl wq293 dX5_readTerm_48 ?_
          refine lv_dup hx hb dX5_readTerm_51 rfl ?_
          refine x_getN (j := 3) (v := .int (xJ (s_12 1 3))) hx hb hown hT hE hW cls_X8 (Or.inl (by decide)) (so_1 h0 g _) (by decide) rfl wn201 dX5_readTerm_52 ?_
          refine x_rd hW (fun x10 ex10 rx10 => ?_)
          refine x_iconst hx hb dX5_readTerm_55 ?_
          refine x_iadd hx hb dX5_readTerm_56 ?_
          refine x_putN (j := 3) hx hb hown hT hE hW cls_X8 (by decide) (fun σ => so_1 h0 g σ) (by decide) (st_X8_3 h0 s_12 1 (x10 + 1)) (ln_X8_3 h0 _ _) wn201 rfl rfl rfl (by omega) dX5_readTerm_57 (fun H locs s11 es11 hW => ?_)
          have q12 : IC s11 := by rw [es11]; exact IC_1 q12_0 (by omega)
          have q13 : s11 1 1 = s0 1 1 := (show s11 1 1 = s_12 1 1 from by rw [es11, xU_j _ _ (by decide)]).trans q12_1
          have hF14 := hF_12.put es11 (by omega)
          refine x_aload_n hx hb hl 0 rfl dX5_readTerm_60 rfl ?_
          refine x_iload_n hx hb hl 1 rfl dX5_readTerm_61 rfl ?_
          refine x_goi (x_runV (As := [.int (xJ q)]) hx hb hml hown hT hE hW hl.1 (Or.inl (by decide)) (so_117 h0 g _) rfl cf_X5_readFactor wq660 wq18 wq658 (c_X5_readFactorL3 l D g T h0 s11 hW.2.1 q rq (by omega) q12) ⟨rfl, rfl, ⟨by decide, by decide⟩, ⟨by decide, by decide⟩⟩ rfl rfl (Nat.le_of_ble_eq_true rfl) dX5_readTerm_62) hW (fun x15 s16 H locs rx15 hp17 hW => ?_)
          obtain ⟨fs16, hp17⟩ := hp17
          have hF18 := hF14.call fs16 (fun k h => by omega)
          have ghp17 := hp17.2
          refine x_if_ne (tgt := 70) hx hb rx15 dX5_readTerm_65 (by decide) (fun c19 => ?_) (fun c19 => ?_)
          · skip
            refine x_aload_n hx hb hl 0 rfl dX5_readTerm_70 rfl ?_
            refine x_get (j := 1) (v := .ref (h0 + 118)) hx hb hown hT hE hW cls_X5 (Or.inl (by decide)) (so_117 h0 g _) (by decide) rfl wq294 dX5_readTerm_71 ?_
            refine x_iload_n hx hb hl 3 rfl dX5_readTerm_74 rfl ?_
            refine x_iconst hx hb dX5_readTerm_75 ?_
            refine x_goi (x_runVN (As := [.int (xJ x7), .int (xJ 0)]) hx hb hml hown hT hE hW hl.1 (Or.inl (by decide)) (so_118 h0 g _) rfl cf_X4_put wq672 wq21 wn670 (c_X4_put l D g T h0 s16 hW.2.1 x7 rx7 0 (by decide) hp17.1.1) ⟨rfl, rfl, ⟨by decide, by decide⟩, ⟨by decide, by decide⟩⟩ rfl rfl (Nat.le_of_ble_eq_true rfl) dX5_readTerm_76) hW (fun x20 s21 H locs rx20 hp22 hW => ?_)
            obtain ⟨fs21, hp22⟩ := hp22
            have hF23 := hF18.call fs21 (fun k h => by omega)
            have q24 : s21 1 1 = s0 1 1 := (congrFun (fs21 _ (by omega)) _).trans (hp17.1.2.1.trans q13)
            have ghp22 := hp22.2
            refine lv_pop hx hb dX5_readTerm_79 rfl ?_
            refine x_iinc (lv' := [(2, .int (xJ (i2_12 + 1))), (0, .ref (h0 + 117)), (1, .int (xJ q)), (3, .int (xJ x7))]) hx hb hl 2 rfl dX5_readTerm_80 (by decide) rfl (fun ls hl => ?_)
            refine lv_goto (tgt := 12) hx hb dX5_readTerm_83 (by decide) ?_
            exact ih12 (i2_12 + 1) s21 H locs ls (by omega) hF23 hp22.1.1 q24 (by omega) (by omega) (by omega) hW (lv_sub hl [1, 2, 0] rfl)
          refine x_iconst hx hb dX5_readTerm_68 ?_
          rw [eQ]
          exact x_zret hx hb hr hlk hW (by omega) ⟨hF18, ⟨hp17.1.1, (hp17.1.2.1.trans q13), trivial⟩, by omega⟩ dX5_readTerm_69
        refine x_icmp_eq (tgt := 47) hx hb rx7 (by decide) dX5_readTerm_30 (by decide) (fun c25 => ?_) (fun c25 => ?_)
        · skip
          exact J47 ls (by omega)  (lv_sub hl [1, 2, 3, 0] rfl)
        refine x_iload_n hx hb hl 0 rfl dX5_readTerm_33 rfl ?_
        refine x_bipush hx hb dX5_readTerm_34 (by decide) ?_
        refine x_icmp_eq (tgt := 47) hx hb rx7 (by decide) dX5_readTerm_36 (by decide) (fun c26 => ?_) (fun c26 => ?_)
        · skip
          exact J47 ls (by omega)  (lv_sub hl [1, 2, 3, 0] rfl)
        refine x_iload_n hx hb hl 0 rfl dX5_readTerm_39 rfl ?_
        refine x_bipush hx hb dX5_readTerm_40 (by decide) ?_
        refine x_icmp_eq (tgt := 47) hx hb rx7 (by decide) dX5_readTerm_42 (by decide) (fun c27 => ?_) (fun c27 => ?_)
        · skip
          exact J47 ls (by omega)  (lv_sub hl [1, 2, 3, 0] rfl)
        refine x_iconst hx hb dX5_readTerm_45 ?_
        rw [eQ]
        exact x_zret hx hb hr hlk hW (by omega) ⟨hF_12, ⟨q12_0, q12_1, trivial⟩, by omega⟩ dX5_readTerm_46
    exact L12 ((300 + 1 - 0 : Int).toNat + 1) 0 s2 H locs ls (by decide) hF4 hp3.1.1 (hp3.1.2.1.trans k1_1) (by omega) (by omega) (Nat.lt_succ_self _) hW (lv_sub hl [1, 2, 0] rfl)
  refine x_iconst hx hb dX5_readTerm_8 ?_
  rw [eQ]
  exact x_zret hx hb hr hlk hW (by omega) ⟨hF4, ⟨hp3.1.1, (hp3.1.2.1.trans k1_1), trivial⟩, by omega⟩ dX5_readTerm_9
set_option maxHeartbeats 4000000 in
set_option maxRecDepth 100000 in
theorem c_X5_readSumL3 (l : Launch) (D : va_G) (g : xG) (T : Nat × Nat × Nat) (h0 : Nat) (s0 : xS) (hσ : xRR s0) (q : Int) (rq : xR q) (hq : q = 3) (p0 : IC s0) : Met l yX5_readSum (xws yX5_readSum cX5_readSum 4 (some .boolean)) { frames := 14, cells := 0, slots := 0, locals := 315 } (xP [.ref (h0 + 117), .int (xJ q)] D g T h0 s0) (xQi D g h0 (fun r τ => xFr (fun k => k = 1 ∨ k = 118 ∨ k = 119 ∨ k = 120) s0 τ ∧ (((IC τ) ∧ (τ 1 1 = s0 1 1) ∧ True) ∧ (r = 0 ∨ r = 1)))) 0 0 (xA h0) := by
  refine x_met hσ (by decide) (Nat.le_of_ble_eq_true rfl) ?_
  intro p e s m args below meth c hx hb hr hml hown hT hlk hnm hE hW ls hl
  have hl : lv_has ls 4 [(0, .ref (h0 + 117)), (1, .int (xJ q))] := hl
  obtain ⟨Q, eQ⟩ : ∃ Q, Q = MQ below (xQi D g h0 (fun r τ => xFr (fun k => k = 1 ∨ k = 118 ∨ k = 119 ∨ k = 120) s0 τ ∧ (((IC τ) ∧ (τ 1 1 = s0 1 1) ∧ True) ∧ (r = 0 ∨ r = 1)))) args s 0 0 (xA h0) := ⟨_, rfl⟩
  rw [← eQ]
  generalize hHe : ([] : List Loc) = locs at hW ⊢
  obtain ⟨H, eH⟩ : ∃ H, H = s.heap := ⟨_, rfl⟩
  rw [← eH] at hW ⊢
  have hF : xFr (fun k => k = 1 ∨ k = 118 ∨ k = 119 ∨ k = 120) s0 s0 := xFr.rf
  have k1_1 : s0 1 1 = s0 1 1 := rfl
  refine x_aload_n hx hb hl 0 rfl dX5_readSum_0 rfl ?_
  refine x_iload_n hx hb hl 1 rfl dX5_readSum_1 rfl ?_
  refine x_goi (x_runV (As := [.int (xJ q)]) hx hb hml hown hT hE hW hl.1 (Or.inl (by decide)) (so_117 h0 g _) rfl cf_X5_readTerm wq656 wq17 wq654 (c_X5_readTermL3 l D g T h0 s0 hW.2.1 q rq (by omega) p0) ⟨rfl, rfl, ⟨by decide, by decide⟩, ⟨by decide, by decide⟩⟩ rfl rfl (Nat.le_of_ble_eq_true rfl) dX5_readSum_2) hW (fun x1 s2 H locs rx1 hp3 hW => ?_)
  obtain ⟨fs2, hp3⟩ := hp3
  have hF4 := hF.call fs2 (fun k h => by omega)
  have ghp3 := hp3.2
  refine x_if_ne (tgt := 10) hx hb rx1 dX5_readSum_5 (by decide) (fun c5 => ?_) (fun c5 => ?_)
  · skip
    refine x_iconst hx hb dX5_readSum_10 ?_
    refine lv_istore_n (lv' := [(2, .int (xJ 0)), (0, .ref (h0 + 117)), (1, .int (xJ q))]) hx hb dX5_readSum_11 rfl hl (by decide) rfl (fun ls hl => ?_)
    have L12 : ∀ (fu : Nat) (i2_12 : Int) (s_12 : xS) (H : Heap) (locs : List Loc) (ls : Array Slot), (xR i2_12) → (xFr (fun k => k = 1 ∨ k = 118 ∨ k = 119 ∨ k = 120) s0 s_12) → (IC s_12) → (s_12 1 1 = s0 1 1) → (0 ≤ i2_12) → (i2_12 ≤ 300) → (300 + 1 - i2_12).toNat < fu → xW D g h0 s H locs s_12 → lv_has ls 4 [(0, .ref (h0 + 117)), (1, .int (xJ q)), (2, .int (xJ i2_12))] → W p l e { frames := 14, cells := 0, slots := 0, locals := 315 } s m args below meth c H locs 0 0 Q (F0 m 12 ls []) := by
      intro fu
      induction fu with
      | zero => intro i2_12 s_12 H locs ls ri2_12 hF_12 q12_0 q12_1 v12_0 v12_1 hm; exact absurd hm (Nat.not_lt_zero _)
      | succ fu ih12 =>
        intro i2_12 s_12 H locs ls ri2_12 hF_12 q12_0 q12_1 v12_0 v12_1 hm hW hl
        refine x_iload_n hx hb hl 2 rfl dX5_readSum_12 rfl ?_
        refine x_sipush hx hb dX5_readSum_13 (by decide) ?_
        refine x_icmp_ge (tgt := 80) hx hb ri2_12 (by decide) dX5_readSum_16 (by decide) (fun c6 => ?_) (fun c6 => ?_)
        · skip
          refine x_iconst hx hb dX5_readSum_80 ?_
          rw [eQ]
          exact x_zret hx hb hr hlk hW (by omega) ⟨hF_12, ⟨q12_0, q12_1, trivial⟩, by omega⟩ dX5_readSum_81
        refine x_aload_n hx hb hl 0 rfl dX5_readSum_19 rfl ?_
        refine x_get (j := 0) (v := .ref (h0 + 1)) hx hb hown hT hE hW cls_X5 (Or.inl (by decide)) (so_117 h0 g _) (by decide) rfl wq293 dX5_readSum_20 ?_
        refine x_goi (x_runVN (As := []) hx hb hml hown hT hE hW hl.1 (Or.inl (by decide)) (so_1 h0 g _) rfl cf_X8_sign wq581 wq4 wn641 (c_X8_sign l D g T h0 s_12 hW.2.1 q12_0) ⟨rfl, rfl, ⟨by decide, by decide⟩, ⟨by decide, by decide⟩⟩ rfl rfl (Nat.le_of_ble_eq_true rfl) dX5_readSum_23) hW (fun x7 s8 H locs rx7 hp9 hW => ?_)
        obtain ⟨es8, hp9⟩ := hp9
        subst es8
        have ghp9 := hp9
        refine lv_istore_n (lv' := [(3, .int (xJ x7)), (0, .ref (h0 + 117)), (1, .int (xJ q)), (2, .int (xJ i2_12))]) hx hb dX5_readSum_26 rfl hl (by decide) rfl (fun ls hl => ?_)
        refine x_iload_n hx hb hl 0 rfl dX5_readSum_27 rfl ?_
        refine x_bipush hx hb dX5_readSum_28 (by decide) ?_
        have J41 : ∀ (ls : Array Slot), (x7 ≠ -1) → lv_has ls 4 [(0, .ref (h0 + 117)), (1, .int (xJ q)), (2, .int (xJ i2_12)), (3, .int (xJ x7))] → W p l e { frames := 14, cells := 0, slots := 0, locals := 315 } s m args below meth c H locs 0 0 Q (F0 m 41 ls []) := by
          intro ls v41_0  hl
          refine x_aload_n hx hb hl 0 rfl dX5_readSum_41 rfl ?_
          refine x_get (j := 0) (v := .ref (h0 + 1)) hx hb hown hT hE hW cls_X5 (Or.inl (by decide)) (so_117 h0 g _) (by decide) rfl wq293 dX5_readSum_42 ?_
          refine lv_dup hx hb dX5_readSum_45 rfl ?_
          refine x_getN (j := 3) (v := .int (xJ (s_12 1 3))) hx hb hown hT hE hW cls_X8 (Or.inl (by decide)) (so_1 h0 g _) (by decide) rfl wn201 dX5_readSum_46 ?_
          refine x_rd hW (fun x10 ex10 rx10 => ?_)
          refine x_iconst hx hb dX5_readSum_49 ?_
          refine x_iadd hx hb dX5_readSum_50 ?_
          refine x_putN (j := 3) hx hb hown hT hE hW cls_X8 (by decide) (fun σ => so_1 h0 g σ) (by decide) (st_X8_3 h0 s_12 1 (x10 + 1)) (ln_X8_3 h0 _ _) wn201 rfl rfl rfl (by omega) dX5_readSum_51 (fun H locs s11 es11 hW => ?_)
          have q12 : IC s11 := by rw [es11]; exact IC_1 q12_0 (by omega)
          have q13 : s11 1 1 = s0 1 1 := (show s11 1 1 = s_12 1 1 from by rw [es11, xU_j _ _ (by decide)]).trans q12_1
          have hF14 := hF_12.put es11 (by omega)
          refine x_aload_n hx hb hl 0 rfl dX5_readSum_54 rfl ?_
          refine x_iload_n hx hb hl 1 rfl dX5_readSum_55 rfl ?_
          refine x_goi (x_runV (As := [.int (xJ q)]) hx hb hml hown hT hE hW hl.1 (Or.inl (by decide)) (so_117 h0 g _) rfl cf_X5_readTerm wq656 wq17 wq654 (c_X5_readTermL3 l D g T h0 s11 hW.2.1 q rq (by omega) q12) ⟨rfl, rfl, ⟨by decide, by decide⟩, ⟨by decide, by decide⟩⟩ rfl rfl (Nat.le_of_ble_eq_true rfl) dX5_readSum_56) hW (fun x15 s16 H locs rx15 hp17 hW => ?_)
          obtain ⟨fs16, hp17⟩ := hp17
          have hF18 := hF14.call fs16 (fun k h => by omega)
          have ghp17 := hp17.2
          refine x_if_ne (tgt := 64) hx hb rx15 dX5_readSum_59 (by decide) (fun c19 => ?_) (fun c19 => ?_)
          · skip
            refine x_aload_n hx hb hl 0 rfl dX5_readSum_64 rfl ?_
            refine x_get (j := 1) (v := .ref (h0 + 118)) hx hb hown hT hE hW cls_X5 (Or.inl (by decide)) (so_117 h0 g _) (by decide) rfl wq294 dX5_readSum_65 ?_
            refine x_iload_n hx hb hl 3 rfl dX5_readSum_68 rfl ?_
            refine x_iconst hx hb dX5_readSum_69 ?_
            refine x_goi (x_runVN (As := [.int (xJ x7), .int (xJ 0)]) hx hb hml hown hT hE hW hl.1 (Or.inl (by decide)) (so_118 h0 g _) rfl cf_X4_put wq672 wq21 wn670 (c_X4_put l D g T h0 s16 hW.2.1 x7 rx7 0 (by decide) hp17.1.1) ⟨rfl, rfl, ⟨by decide, by decide⟩, ⟨by decide, by decide⟩⟩ rfl rfl (Nat.le_of_ble_eq_true rfl) dX5_readSum_70) hW (fun x20 s21 H locs rx20 hp22 hW => ?_)
            obtain ⟨fs21, hp22⟩ := hp22
            have hF23 := hF18.call fs21 (fun k h => by omega)
            have q24 : s21 1 1 = s0 1 1 := (congrFun (fs21 _ (by omega)) _).trans (hp17.1.2.1.trans q13)
            have ghp22 := hp22.2
            refine lv_pop hx hb dX5_readSum_73 rfl ?_
            refine x_iinc (lv' := [(2, .int (xJ (i2_12 + 1))), (0, .ref (h0 + 117)), (1, .int (xJ q)), (3, .int (xJ x7))]) hx hb hl 2 rfl dX5_readSum_74 (by decide) rfl (fun ls hl => ?_)
            refine lv_goto (tgt := 12) hx hb dX5_readSum_77 (by decide) ?_
            exact ih12 (i2_12 + 1) s21 H locs ls (by omega) hF23 hp22.1.1 q24 (by omega) (by omega) (by omega) hW (lv_sub hl [1, 2, 0] rfl)
          refine x_iconst hx hb dX5_readSum_62 ?_
          rw [eQ]
          exact x_zret hx hb hr hlk hW (by omega) ⟨hF18, ⟨hp17.1.1, (hp17.1.2.1.trans q13), trivial⟩, by omega⟩ dX5_readSum_63
        refine x_icmp_eq (tgt := 41) hx hb rx7 (by decide) dX5_readSum_30 (by decide) (fun c25 => ?_) (fun c25 => ?_)
        · skip
          exact J41 ls (by omega)  (lv_sub hl [1, 2, 3, 0] rfl)
        refine x_iload_n hx hb hl 0 rfl dX5_readSum_33 rfl ?_
        refine x_bipush hx hb dX5_readSum_34 (by decide) ?_
        refine x_icmp_eq (tgt := 41) hx hb rx7 (by decide) dX5_readSum_36 (by decide) (fun c26 => ?_) (fun c26 => ?_)
        · skip
          exact J41 ls (by omega)  (lv_sub hl [1, 2, 3, 0] rfl)
        refine x_iconst hx hb dX5_readSum_39 ?_
        rw [eQ]
        exact x_zret hx hb hr hlk hW (by omega) ⟨hF_12, ⟨q12_0, q12_1, trivial⟩, by omega⟩ dX5_readSum_40
    exact L12 ((300 + 1 - 0 : Int).toNat + 1) 0 s2 H locs ls (by decide) hF4 hp3.1.1 (hp3.1.2.1.trans k1_1) (by omega) (by omega) (Nat.lt_succ_self _) hW (lv_sub hl [1, 2, 0] rfl)
  refine x_iconst hx hb dX5_readSum_8 ?_
  rw [eQ]
  exact x_zret hx hb hr hlk hW (by omega) ⟨hF4, ⟨hp3.1.1, (hp3.1.2.1.trans k1_1), trivial⟩, by omega⟩ dX5_readSum_9
set_option maxHeartbeats 4000000 in
set_option maxRecDepth 100000 in
theorem c_X5_readFactorL2 (l : Launch) (D : va_G) (g : xG) (T : Nat × Nat × Nat) (h0 : Nat) (s0 : xS) (hσ : xRR s0) (q : Int) (rq : xR q) (hq : q = 2) (p0 : IC s0) : Met l yX5_readFactor (xws yX5_readFactor cX5_readFactor 4 (some .boolean)) { frames := 15, cells := 0, slots := 0, locals := 338 } (xP [.ref (h0 + 117), .int (xJ q)] D g T h0 s0) (xQi D g h0 (fun r τ => xFr (fun k => k = 1 ∨ k = 118 ∨ k = 119 ∨ k = 120) s0 τ ∧ (((IC τ) ∧ (τ 1 1 = s0 1 1) ∧ True) ∧ (r = 0 ∨ r = 1)))) 0 0 (xA h0) := by
  refine x_met hσ (by decide) (Nat.le_of_ble_eq_true rfl) ?_
  intro p e s m args below meth c hx hb hr hml hown hT hlk hnm hE hW ls hl
  have hl : lv_has ls 4 [(0, .ref (h0 + 117)), (1, .int (xJ q))] := hl
  obtain ⟨Q, eQ⟩ : ∃ Q, Q = MQ below (xQi D g h0 (fun r τ => xFr (fun k => k = 1 ∨ k = 118 ∨ k = 119 ∨ k = 120) s0 τ ∧ (((IC τ) ∧ (τ 1 1 = s0 1 1) ∧ True) ∧ (r = 0 ∨ r = 1)))) args s 0 0 (xA h0) := ⟨_, rfl⟩
  rw [← eQ]
  generalize hHe : ([] : List Loc) = locs at hW ⊢
  obtain ⟨H, eH⟩ : ∃ H, H = s.heap := ⟨_, rfl⟩
  rw [← eH] at hW ⊢
  have hF : xFr (fun k => k = 1 ∨ k = 118 ∨ k = 119 ∨ k = 120) s0 s0 := xFr.rf
  have k1_1 : s0 1 1 = s0 1 1 := rfl
  refine x_aload_n hx hb hl 0 rfl dX5_readFactor_0 rfl ?_
  refine x_get (j := 0) (v := .ref (h0 + 1)) hx hb hown hT hE hW cls_X5 (Or.inl (by decide)) (so_117 h0 g _) (by decide) rfl wq293 dX5_readFactor_1 ?_
  refine x_goi (x_runVN (As := []) hx hb hml hown hT hE hW hl.1 (Or.inl (by decide)) (so_1 h0 g _) rfl cf_X8_isDigit wq664 wq19 wn662 (c_X8_isDigit l D g T h0 s0 hW.2.1 p0) ⟨rfl, rfl, ⟨by decide, by decide⟩, ⟨by decide, by decide⟩⟩ rfl rfl (Nat.le_of_ble_eq_true rfl) dX5_readFactor_4) hW (fun x1 s2 H locs rx1 hp3 hW => ?_)
  obtain ⟨es2, hp3⟩ := hp3
  subst es2
  have ghp3 := hp3
  refine x_if_eq (tgt := 15) hx hb rx1 dX5_readFactor_7 (by decide) (fun c4 => ?_) (fun c4 => ?_)
  · skip
    refine x_aload_n hx hb hl 0 rfl dX5_readFactor_15 rfl ?_
    refine x_get (j := 0) (v := .ref (h0 + 1)) hx hb hown hT hE hW cls_X5 (Or.inl (by decide)) (so_117 h0 g _) (by decide) rfl wq293 dX5_readFactor_16 ?_
    refine x_goi (x_runVN (As := []) hx hb hml hown hT hE hW hl.1 (Or.inl (by decide)) (so_1 h0 g _) rfl cf_X8_sign wq581 wq4 wn641 (c_X8_sign l D g T h0 s0 hW.2.1 p0) ⟨rfl, rfl, ⟨by decide, by decide⟩, ⟨by decide, by decide⟩⟩ rfl rfl (Nat.le_of_ble_eq_true rfl) dX5_readFactor_19) hW (fun x5 s6 H locs rx5 hp7 hW => ?_)
    obtain ⟨es6, hp7⟩ := hp7
    subst es6
    have ghp7 := hp7
    refine lv_istore_n (lv' := [(2, .int (xJ x5)), (0, .ref (h0 + 117)), (1, .int (xJ q))]) hx hb dX5_readFactor_22 rfl hl (by decide) rfl (fun ls hl => ?_)
    refine x_iload_n hx hb hl 0 rfl dX5_readFactor_23 rfl ?_
    refine x_bipush hx hb dX5_readFactor_24 (by decide) ?_
    refine x_icmp_ne (tgt := 92) hx hb rx5 (by decide) dX5_readFactor_26 (by decide) (fun c8 => ?_) (fun c8 => ?_)
    · skip
      refine x_iload_n hx hb hl 0 rfl dX5_readFactor_92 rfl ?_
      refine x_goi (x_runSN (As := [.int (xJ x5)]) hx hb hml hown hT hE hW hl.1 cf_X4_placeOfLetter wq676 wn675 (c_X4_placeOfLetter l D g T h0 s0 hW.2.1 x5 rx5) ⟨rfl, rfl, ⟨by decide, by decide⟩, ⟨by decide, by decide⟩⟩ rfl rfl (Nat.le_of_ble_eq_true rfl) dX5_readFactor_93) hW (fun x9 s10 H locs rx9 hp11 hW => ?_)
      obtain ⟨es10, hp11⟩ := hp11
      subst es10
      have ghp11 := hp11
      refine lv_istore_n (lv' := [(3, .int (xJ x9)), (2, .int (xJ x5)), (0, .ref (h0 + 117)), (1, .int (xJ q))]) hx hb dX5_readFactor_96 rfl hl (by decide) rfl (fun ls hl => ?_)
      refine x_iload_n hx hb hl 0 rfl dX5_readFactor_97 rfl ?_
      refine x_iconst hx hb dX5_readFactor_98 ?_
      refine x_icmp_ne (tgt := 118) hx hb rx9 (by decide) dX5_readFactor_99 (by decide) (fun c12 => ?_) (fun c12 => ?_)
      · skip
        refine x_aload_n hx hb hl 2 rfl dX5_readFactor_118 rfl ?_
        refine x_get (j := 0) (v := .ref (h0 + 1)) hx hb hown hT hE hW cls_X5 (Or.inl (by decide)) (so_117 h0 g _) (by decide) rfl wq293 dX5_readFactor_119 ?_
        refine lv_dup hx hb dX5_readFactor_122 rfl ?_
        refine x_getN (j := 3) (v := .int (xJ (s0 1 3))) hx hb hown hT hE hW cls_X8 (Or.inl (by decide)) (so_1 h0 g _) (by decide) rfl wn201 dX5_readFactor_123 ?_
        refine x_rd hW (fun x13 ex13 rx13 => ?_)
        refine x_iconst hx hb dX5_readFactor_126 ?_
        refine x_iadd hx hb dX5_readFactor_127 ?_
        refine x_putN (j := 3) hx hb hown hT hE hW cls_X8 (by decide) (fun σ => so_1 h0 g σ) (by decide) (st_X8_3 h0 s0 1 (x13 + 1)) (ln_X8_3 h0 _ _) wn201 rfl rfl rfl (by omega) dX5_readFactor_128 (fun H locs s14 es14 hW => ?_)
        have q15 : IC s14 := by rw [es14]; exact IC_1 p0 (by omega)
        have q16 : s14 1 1 = s0 1 1 := (show s14 1 1 = s0 1 1 from by rw [es14, xU_j _ _ (by decide)]).trans k1_1
        have hF17 := hF.put es14 (by omega)
        refine x_aload_n hx hb hl 2 rfl dX5_readFactor_131 rfl ?_
        refine x_get (j := 1) (v := .ref (h0 + 118)) hx hb hown hT hE hW cls_X5 (Or.inl (by decide)) (so_117 h0 g _) (by decide) rfl wq294 dX5_readFactor_132 ?_
        refine x_iconst hx hb dX5_readFactor_135 ?_
        refine x_iload_n hx hb hl 0 rfl dX5_readFactor_136 rfl ?_
        refine x_goi (x_runVN (As := [.int (xJ 2), .int (xJ x9)]) hx hb hml hown hT hE hW hl.1 (Or.inl (by decide)) (so_118 h0 g _) rfl cf_X4_put wq672 wq21 wn670 (c_X4_put l D g T h0 s14 hW.2.1 2 (by decide) x9 rx9 q15) ⟨rfl, rfl, ⟨by decide, by decide⟩, ⟨by decide, by decide⟩⟩ rfl rfl (Nat.le_of_ble_eq_true rfl) dX5_readFactor_137) hW (fun x18 s19 H locs rx18 hp20 hW => ?_)
        obtain ⟨fs19, hp20⟩ := hp20
        have hF21 := hF17.call fs19 (fun k h => by omega)
        have q22 : s19 1 1 = s0 1 1 := (congrFun (fs19 _ (by omega)) _).trans q16
        have ghp20 := hp20.2
        refine lv_pop hx hb dX5_readFactor_140 rfl ?_
        refine x_iconst hx hb dX5_readFactor_141 ?_
        rw [eQ]
        exact x_zret hx hb hr hlk hW (by omega) ⟨hF21, ⟨hp20.1.1, q22, trivial⟩, by omega⟩ dX5_readFactor_142
      refine x_aload_n hx hb hl 2 rfl dX5_readFactor_102 rfl ?_
      refine x_get (j := 0) (v := .ref (h0 + 1)) hx hb hown hT hE hW cls_X5 (Or.inl (by decide)) (so_117 h0 g _) (by decide) rfl wq293 dX5_readFactor_103 ?_
      refine x_iconst hx hb dX5_readFactor_106 ?_
      refine x_aload_n hx hb hl 2 rfl dX5_readFactor_107 rfl ?_
      refine x_get (j := 0) (v := .ref (h0 + 1)) hx hb hown hT hE hW cls_X5 (Or.inl (by decide)) (so_117 h0 g _) (by decide) rfl wq293 dX5_readFactor_108 ?_
      refine x_getN (j := 3) (v := .int (xJ (s0 1 3))) hx hb hown hT hE hW cls_X8 (Or.inl (by decide)) (so_1 h0 g _) (by decide) rfl wn201 dX5_readFactor_111 ?_
      refine x_rd hW (fun x23 ex23 rx23 => ?_)
      refine x_goi (x_runVN (As := [.int (xJ 1), .int (xJ x23)]) hx hb hml hown hT hE hW hl.1 (Or.inl (by decide)) (so_1 h0 g _) rfl cf_X8_fails wq588 wq5 wn645 (c_X8_fails l D g T h0 s0 hW.2.1 1 (by decide) x23 rx23 p0) ⟨rfl, rfl, ⟨by decide, by decide⟩, ⟨by decide, by decide⟩⟩ rfl rfl (Nat.le_of_ble_eq_true rfl) dX5_readFactor_114) hW (fun x24 s25 H locs rx24 hp26 hW => ?_)
      obtain ⟨fs25, hp26⟩ := hp26
      have hF27 := hF.call fs25 (fun k h => by omega)
      have ghp26 := hp26.2
      rw [eQ]
      exact x_zret hx hb hr hlk hW (by omega) ⟨hF27, ⟨hp26.1.1, (hp26.1.2.1.trans k1_1), trivial⟩, by omega⟩ dX5_readFactor_117
    refine x_iload_n hx hb hl 2 rfl dX5_readFactor_29 rfl ?_
    refine x_bipush hx hb dX5_readFactor_30 (by decide) ?_
    refine x_icmp_lt (tgt := 51) hx hb rq (by decide) dX5_readFactor_32 (by decide) (fun c28 => ?_) (fun c28 => False.elim (by omega))
    refine x_aload_n hx hb hl 1 rfl dX5_readFactor_51 rfl ?_
    refine x_get (j := 0) (v := .ref (h0 + 1)) hx hb hown hT hE hW cls_X5 (Or.inl (by decide)) (so_117 h0 g _) (by decide) rfl wq293 dX5_readFactor_52 ?_
    refine lv_dup hx hb dX5_readFactor_55 rfl ?_
    refine x_getN (j := 3) (v := .int (xJ (s0 1 3))) hx hb hown hT hE hW cls_X8 (Or.inl (by decide)) (so_1 h0 g _) (by decide) rfl wn201 dX5_readFactor_56 ?_
    refine x_rd hW (fun x29 ex29 rx29 => ?_)
    refine x_iconst hx hb dX5_readFactor_59 ?_
    refine x_iadd hx hb dX5_readFactor_60 ?_
    refine x_putN (j := 3) hx hb hown hT hE hW cls_X8 (by decide) (fun σ => so_1 h0 g σ) (by decide) (st_X8_3 h0 s0 1 (x29 + 1)) (ln_X8_3 h0 _ _) wn201 rfl rfl rfl (by omega) dX5_readFactor_61 (fun H locs s30 es30 hW => ?_)
    have q31 : IC s30 := by rw [es30]; exact IC_1 p0 (by omega)
    have q32 : s30 1 1 = s0 1 1 := (show s30 1 1 = s0 1 1 from by rw [es30, xU_j _ _ (by decide)]).trans k1_1
    have hF33 := hF.put es30 (by omega)
    refine x_aload_n hx hb hl 1 rfl dX5_readFactor_64 rfl ?_
    refine x_iload_n hx hb hl 2 rfl dX5_readFactor_65 rfl ?_
    refine x_iconst hx hb dX5_readFactor_66 ?_
    refine x_iadd hx hb dX5_readFactor_67 ?_
    refine x_goi (x_runV (As := [.int (xJ (q + 1))]) hx hb hml hown hT hE hW hl.1 (Or.inl (by decide)) (so_117 h0 g _) rfl cf_X5_readSum wq652 wq16 wq650 (c_X5_readSumL3 l D g T h0 s30 hW.2.1 (q + 1) (by omega) (by omega) q31) ⟨rfl, rfl, ⟨by decide, by decide⟩, ⟨by decide, by decide⟩⟩ rfl rfl (Nat.le_of_ble_eq_true rfl) dX5_readFactor_68) hW (fun x34 s35 H locs rx34 hp36 hW => ?_)
    obtain ⟨fs35, hp36⟩ := hp36
    have hF37 := hF33.call fs35 (fun k h => by omega)
    have ghp36 := hp36.2
    refine x_if_eq (tgt := 90) hx hb rx34 dX5_readFactor_71 (by decide) (fun c38 => ?_) (fun c38 => ?_)
    · skip
      refine x_iconst hx hb dX5_readFactor_90 ?_
      rw [eQ]
      exact x_zret hx hb hr hlk hW (by omega) ⟨hF37, ⟨hp36.1.1, (hp36.1.2.1.trans q32), trivial⟩, by omega⟩ dX5_readFactor_91
    refine x_aload_n hx hb hl 1 rfl dX5_readFactor_74 rfl ?_
    refine x_get (j := 0) (v := .ref (h0 + 1)) hx hb hown hT hE hW cls_X5 (Or.inl (by decide)) (so_117 h0 g _) (by decide) rfl wq293 dX5_readFactor_75 ?_
    refine x_bipush hx hb dX5_readFactor_78 (by decide) ?_
    refine x_goi (x_runVN (As := [.int (xJ 93)]) hx hb hml hown hT hE hW hl.1 (Or.inl (by decide)) (so_1 h0 g _) rfl cf_X8_passes wq598 wq6 wn674 (c_X8_passes l D g T h0 s35 hW.2.1 93 (by decide) hp36.1.1) ⟨rfl, rfl, ⟨by decide, by decide⟩, ⟨by decide, by decide⟩⟩ rfl rfl (Nat.le_of_ble_eq_true rfl) dX5_readFactor_80) hW (fun x39 s40 H locs rx39 hp41 hW => ?_)
    obtain ⟨fs40, hp41⟩ := hp41
    have hF42 := hF37.call fs40 (fun k h => by omega)
    have ghp41 := hp41.2
    refine x_if_eq (tgt := 90) hx hb rx39 dX5_readFactor_83 (by decide) (fun c43 => ?_) (fun c43 => ?_)
    · skip
      refine x_iconst hx hb dX5_readFactor_90 ?_
      rw [eQ]
      exact x_zret hx hb hr hlk hW (by omega) ⟨hF42, ⟨hp41.1.1, (hp41.1.2.1.trans (hp36.1.2.1.trans q32)), trivial⟩, by omega⟩ dX5_readFactor_91
    refine x_iconst hx hb dX5_readFactor_86 ?_
    refine lv_goto (tgt := 91) hx hb dX5_readFactor_87 (by decide) ?_
    rw [eQ]
    exact x_zret hx hb hr hlk hW (by omega) ⟨hF42, ⟨hp41.1.1, (hp41.1.2.1.trans (hp36.1.2.1.trans q32)), trivial⟩, by omega⟩ dX5_readFactor_91
  refine x_aload_n hx hb hl 0 rfl dX5_readFactor_10 rfl ?_
  refine x_goi (x_runV (As := []) hx hb hml hown hT hE hW hl.1 (Or.inl (by decide)) (so_117 h0 g _) rfl cf_X5_readNumber wq668 wq20 wq666 (c_X5_readNumber l D g T h0 s0 hW.2.1 p0) ⟨rfl, rfl, ⟨by decide, by decide⟩, ⟨by decide, by decide⟩⟩ rfl rfl (Nat.le_of_ble_eq_true rfl) dX5_readFactor_11) hW (fun x44 s45 H locs rx44 hp46 hW => ?_)
  obtain ⟨fs45, hp46⟩ := hp46
  have hF47 := hF.call fs45 (fun k h => by omega)
  have ghp46 := hp46.2
  rw [eQ]
  exact x_zret hx hb hr hlk hW (by omega) ⟨hF47, ⟨hp46.1.1, (hp46.1.2.1.trans k1_1), trivial⟩, by omega⟩ dX5_readFactor_14
set_option maxHeartbeats 4000000 in
set_option maxRecDepth 100000 in
theorem c_X5_readTermL2 (l : Launch) (D : va_G) (g : xG) (T : Nat × Nat × Nat) (h0 : Nat) (s0 : xS) (hσ : xRR s0) (q : Int) (rq : xR q) (hq : q = 2) (p0 : IC s0) : Met l yX5_readTerm (xws yX5_readTerm cX5_readTerm 4 (some .boolean)) { frames := 16, cells := 0, slots := 0, locals := 361 } (xP [.ref (h0 + 117), .int (xJ q)] D g T h0 s0) (xQi D g h0 (fun r τ => xFr (fun k => k = 1 ∨ k = 118 ∨ k = 119 ∨ k = 120) s0 τ ∧ (((IC τ) ∧ (τ 1 1 = s0 1 1) ∧ True) ∧ (r = 0 ∨ r = 1)))) 0 0 (xA h0) := by
  refine x_met hσ (by decide) (Nat.le_of_ble_eq_true rfl) ?_
  intro p e s m args below meth c hx hb hr hml hown hT hlk hnm hE hW ls hl
  have hl : lv_has ls 4 [(0, .ref (h0 + 117)), (1, .int (xJ q))] := hl
  obtain ⟨Q, eQ⟩ : ∃ Q, Q = MQ below (xQi D g h0 (fun r τ => xFr (fun k => k = 1 ∨ k = 118 ∨ k = 119 ∨ k = 120) s0 τ ∧ (((IC τ) ∧ (τ 1 1 = s0 1 1) ∧ True) ∧ (r = 0 ∨ r = 1)))) args s 0 0 (xA h0) := ⟨_, rfl⟩
  rw [← eQ]
  generalize hHe : ([] : List Loc) = locs at hW ⊢
  obtain ⟨H, eH⟩ : ∃ H, H = s.heap := ⟨_, rfl⟩
  rw [← eH] at hW ⊢
  have hF : xFr (fun k => k = 1 ∨ k = 118 ∨ k = 119 ∨ k = 120) s0 s0 := xFr.rf
  have k1_1 : s0 1 1 = s0 1 1 := rfl
  refine x_aload_n hx hb hl 0 rfl dX5_readTerm_0 rfl ?_
  refine x_iload_n hx hb hl 1 rfl dX5_readTerm_1 rfl ?_
  refine x_goi (x_runV (As := [.int (xJ q)]) hx hb hml hown hT hE hW hl.1 (Or.inl (by decide)) (so_117 h0 g _) rfl cf_X5_readFactor wq660 wq18 wq658 (c_X5_readFactorL2 l D g T h0 s0 hW.2.1 q rq (by omega) p0) ⟨rfl, rfl, ⟨by decide, by decide⟩, ⟨by decide, by decide⟩⟩ rfl rfl (Nat.le_of_ble_eq_true rfl) dX5_readTerm_2) hW (fun x1 s2 H locs rx1 hp3 hW => ?_)
  obtain ⟨fs2, hp3⟩ := hp3
  have hF4 := hF.call fs2 (fun k h => by omega)
  have ghp3 := hp3.2
  refine x_if_ne (tgt := 10) hx hb rx1 dX5_readTerm_5 (by decide) (fun c5 => ?_) (fun c5 => ?_)
  · skip
    refine x_iconst hx hb dX5_readTerm_10 ?_
    refine lv_istore_n (lv' := [(2, .int (xJ 0)), (0, .ref (h0 + 117)), (1, .int (xJ q))]) hx hb dX5_readTerm_11 rfl hl (by decide) rfl (fun ls hl => ?_)
    have L12 : ∀ (fu : Nat) (i2_12 : Int) (s_12 : xS) (H : Heap) (locs : List Loc) (ls : Array Slot), (xR i2_12) → (xFr (fun k => k = 1 ∨ k = 118 ∨ k = 119 ∨ k = 120) s0 s_12) → (IC s_12) → (s_12 1 1 = s0 1 1) → (0 ≤ i2_12) → (i2_12 ≤ 300) → (300 + 1 - i2_12).toNat < fu → xW D g h0 s H locs s_12 → lv_has ls 4 [(0, .ref (h0 + 117)), (1, .int (xJ q)), (2, .int (xJ i2_12))] → W p l e { frames := 16, cells := 0, slots := 0, locals := 361 } s m args below meth c H locs 0 0 Q (F0 m 12 ls []) := by
      intro fu
      induction fu with
      | zero => intro i2_12 s_12 H locs ls ri2_12 hF_12 q12_0 q12_1 v12_0 v12_1 hm; exact absurd hm (Nat.not_lt_zero _)
      | succ fu ih12 =>
        intro i2_12 s_12 H locs ls ri2_12 hF_12 q12_0 q12_1 v12_0 v12_1 hm hW hl
        refine x_iload_n hx hb hl 2 rfl dX5_readTerm_12 rfl ?_
        refine x_sipush hx hb dX5_readTerm_13 (by decide) ?_
        refine x_icmp_ge (tgt := 86) hx hb ri2_12 (by decide) dX5_readTerm_16 (by decide) (fun c6 => ?_) (fun c6 => ?_)
        · skip
          refine x_iconst hx hb dX5_readTerm_86 ?_
          rw [eQ]
          exact x_zret hx hb hr hlk hW (by omega) ⟨hF_12, ⟨q12_0, q12_1, trivial⟩, by omega⟩ dX5_readTerm_87
        refine x_aload_n hx hb hl 0 rfl dX5_readTerm_19 rfl ?_
        refine x_get (j := 0) (v := .ref (h0 + 1)) hx hb hown hT hE hW cls_X5 (Or.inl (by decide)) (so_117 h0 g _) (by decide) rfl wq293 dX5_readTerm_20 ?_
        refine x_goi (x_runVN (As := []) hx hb hml hown hT hE hW hl.1 (Or.inl (by decide)) (so_1 h0 g _) rfl cf_X8_sign wq581 wq4 wn641 (c_X8_sign l D g T h0 s_12 hW.2.1 q12_0) ⟨rfl, rfl, ⟨by decide, by decide⟩, ⟨by decide, by decide⟩⟩ rfl rfl (Nat.le_of_ble_eq_true rfl) dX5_readTerm_23) hW (fun x7 s8 H locs rx7 hp9 hW => ?_)
        obtain ⟨es8, hp9⟩ := hp9
        subst es8
        have ghp9 := hp9
        refine lv_istore_n (lv' := [(3, .int (xJ x7)), (0, .ref (h0 + 117)), (1, .int (xJ q)), (2, .int (xJ i2_12))]) hx hb dX5_readTerm_26 rfl hl (by decide) rfl (fun ls hl => ?_)
        refine x_iload_n hx hb hl 0 rfl dX5_readTerm_27 rfl ?_
        refine x_bipush hx hb dX5_readTerm_28 (by decide) ?_
        have J47 : ∀ (ls : Array Slot), (x7 ≠ -1) → lv_has ls 4 [(0, .ref (h0 + 117)), (1, .int (xJ q)), (2, .int (xJ i2_12)), (3, .int (xJ x7))] → W p l e { frames := 16, cells := 0, slots := 0, locals := 361 } s m args below meth c H locs 0 0 Q (F0 m 47 ls []) := by
          intro ls v47_0  hl
          refine x_aload_n hx hb hl 0 rfl dX5_readTerm_47 rfl ?_
          refine x_get (j := 0) (v := .ref (h0 + 1)) hx hb hown hT hE hW cls_X5 (Or.inl (by decide)) (so_117 h0 g _) (by decide) rfl wq293 dX5_readTerm_48 ?_
          refine lv_dup hx hb dX5_readTerm_51 rfl ?_
          refine x_getN (j := 3) (v := .int (xJ (s_12 1 3))) hx hb hown hT hE hW cls_X8 (Or.inl (by decide)) (so_1 h0 g _) (by decide) rfl wn201 dX5_readTerm_52 ?_
          refine x_rd hW (fun x10 ex10 rx10 => ?_)
          refine x_iconst hx hb dX5_readTerm_55 ?_
          refine x_iadd hx hb dX5_readTerm_56 ?_
          refine x_putN (j := 3) hx hb hown hT hE hW cls_X8 (by decide) (fun σ => so_1 h0 g σ) (by decide) (st_X8_3 h0 s_12 1 (x10 + 1)) (ln_X8_3 h0 _ _) wn201 rfl rfl rfl (by omega) dX5_readTerm_57 (fun H locs s11 es11 hW => ?_)
          have q12 : IC s11 := by rw [es11]; exact IC_1 q12_0 (by omega)
          have q13 : s11 1 1 = s0 1 1 := (show s11 1 1 = s_12 1 1 from by rw [es11, xU_j _ _ (by decide)]).trans q12_1
          have hF14 := hF_12.put es11 (by omega)
          refine x_aload_n hx hb hl 0 rfl dX5_readTerm_60 rfl ?_
          refine x_iload_n hx hb hl 1 rfl dX5_readTerm_61 rfl ?_
          refine x_goi (x_runV (As := [.int (xJ q)]) hx hb hml hown hT hE hW hl.1 (Or.inl (by decide)) (so_117 h0 g _) rfl cf_X5_readFactor wq660 wq18 wq658 (c_X5_readFactorL2 l D g T h0 s11 hW.2.1 q rq (by omega) q12) ⟨rfl, rfl, ⟨by decide, by decide⟩, ⟨by decide, by decide⟩⟩ rfl rfl (Nat.le_of_ble_eq_true rfl) dX5_readTerm_62) hW (fun x15 s16 H locs rx15 hp17 hW => ?_)
          obtain ⟨fs16, hp17⟩ := hp17
          have hF18 := hF14.call fs16 (fun k h => by omega)
          have ghp17 := hp17.2
          refine x_if_ne (tgt := 70) hx hb rx15 dX5_readTerm_65 (by decide) (fun c19 => ?_) (fun c19 => ?_)
          · skip
            refine x_aload_n hx hb hl 0 rfl dX5_readTerm_70 rfl ?_
            refine x_get (j := 1) (v := .ref (h0 + 118)) hx hb hown hT hE hW cls_X5 (Or.inl (by decide)) (so_117 h0 g _) (by decide) rfl wq294 dX5_readTerm_71 ?_
            refine x_iload_n hx hb hl 3 rfl dX5_readTerm_74 rfl ?_
            refine x_iconst hx hb dX5_readTerm_75 ?_
            refine x_goi (x_runVN (As := [.int (xJ x7), .int (xJ 0)]) hx hb hml hown hT hE hW hl.1 (Or.inl (by decide)) (so_118 h0 g _) rfl cf_X4_put wq672 wq21 wn670 (c_X4_put l D g T h0 s16 hW.2.1 x7 rx7 0 (by decide) hp17.1.1) ⟨rfl, rfl, ⟨by decide, by decide⟩, ⟨by decide, by decide⟩⟩ rfl rfl (Nat.le_of_ble_eq_true rfl) dX5_readTerm_76) hW (fun x20 s21 H locs rx20 hp22 hW => ?_)
            obtain ⟨fs21, hp22⟩ := hp22
            have hF23 := hF18.call fs21 (fun k h => by omega)
            have q24 : s21 1 1 = s0 1 1 := (congrFun (fs21 _ (by omega)) _).trans (hp17.1.2.1.trans q13)
            have ghp22 := hp22.2
            refine lv_pop hx hb dX5_readTerm_79 rfl ?_
            refine x_iinc (lv' := [(2, .int (xJ (i2_12 + 1))), (0, .ref (h0 + 117)), (1, .int (xJ q)), (3, .int (xJ x7))]) hx hb hl 2 rfl dX5_readTerm_80 (by decide) rfl (fun ls hl => ?_)
            refine lv_goto (tgt := 12) hx hb dX5_readTerm_83 (by decide) ?_
            exact ih12 (i2_12 + 1) s21 H locs ls (by omega) hF23 hp22.1.1 q24 (by omega) (by omega) (by omega) hW (lv_sub hl [1, 2, 0] rfl)
          refine x_iconst hx hb dX5_readTerm_68 ?_
          rw [eQ]
          exact x_zret hx hb hr hlk hW (by omega) ⟨hF18, ⟨hp17.1.1, (hp17.1.2.1.trans q13), trivial⟩, by omega⟩ dX5_readTerm_69
        refine x_icmp_eq (tgt := 47) hx hb rx7 (by decide) dX5_readTerm_30 (by decide) (fun c25 => ?_) (fun c25 => ?_)
        · skip
          exact J47 ls (by omega)  (lv_sub hl [1, 2, 3, 0] rfl)
        refine x_iload_n hx hb hl 0 rfl dX5_readTerm_33 rfl ?_
        refine x_bipush hx hb dX5_readTerm_34 (by decide) ?_
        refine x_icmp_eq (tgt := 47) hx hb rx7 (by decide) dX5_readTerm_36 (by decide) (fun c26 => ?_) (fun c26 => ?_)
        · skip
          exact J47 ls (by omega)  (lv_sub hl [1, 2, 3, 0] rfl)
        refine x_iload_n hx hb hl 0 rfl dX5_readTerm_39 rfl ?_
        refine x_bipush hx hb dX5_readTerm_40 (by decide) ?_
        refine x_icmp_eq (tgt := 47) hx hb rx7 (by decide) dX5_readTerm_42 (by decide) (fun c27 => ?_) (fun c27 => ?_)
        · skip
          exact J47 ls (by omega)  (lv_sub hl [1, 2, 3, 0] rfl)
        refine x_iconst hx hb dX5_readTerm_45 ?_
        rw [eQ]
        exact x_zret hx hb hr hlk hW (by omega) ⟨hF_12, ⟨q12_0, q12_1, trivial⟩, by omega⟩ dX5_readTerm_46
    exact L12 ((300 + 1 - 0 : Int).toNat + 1) 0 s2 H locs ls (by decide) hF4 hp3.1.1 (hp3.1.2.1.trans k1_1) (by omega) (by omega) (Nat.lt_succ_self _) hW (lv_sub hl [1, 2, 0] rfl)
  refine x_iconst hx hb dX5_readTerm_8 ?_
  rw [eQ]
  exact x_zret hx hb hr hlk hW (by omega) ⟨hF4, ⟨hp3.1.1, (hp3.1.2.1.trans k1_1), trivial⟩, by omega⟩ dX5_readTerm_9
set_option maxHeartbeats 4000000 in
set_option maxRecDepth 100000 in
theorem c_X5_readSumL2 (l : Launch) (D : va_G) (g : xG) (T : Nat × Nat × Nat) (h0 : Nat) (s0 : xS) (hσ : xRR s0) (q : Int) (rq : xR q) (hq : q = 2) (p0 : IC s0) : Met l yX5_readSum (xws yX5_readSum cX5_readSum 4 (some .boolean)) { frames := 17, cells := 0, slots := 0, locals := 384 } (xP [.ref (h0 + 117), .int (xJ q)] D g T h0 s0) (xQi D g h0 (fun r τ => xFr (fun k => k = 1 ∨ k = 118 ∨ k = 119 ∨ k = 120) s0 τ ∧ (((IC τ) ∧ (τ 1 1 = s0 1 1) ∧ True) ∧ (r = 0 ∨ r = 1)))) 0 0 (xA h0) := by
  refine x_met hσ (by decide) (Nat.le_of_ble_eq_true rfl) ?_
  intro p e s m args below meth c hx hb hr hml hown hT hlk hnm hE hW ls hl
  have hl : lv_has ls 4 [(0, .ref (h0 + 117)), (1, .int (xJ q))] := hl
  obtain ⟨Q, eQ⟩ : ∃ Q, Q = MQ below (xQi D g h0 (fun r τ => xFr (fun k => k = 1 ∨ k = 118 ∨ k = 119 ∨ k = 120) s0 τ ∧ (((IC τ) ∧ (τ 1 1 = s0 1 1) ∧ True) ∧ (r = 0 ∨ r = 1)))) args s 0 0 (xA h0) := ⟨_, rfl⟩
  rw [← eQ]
  generalize hHe : ([] : List Loc) = locs at hW ⊢
  obtain ⟨H, eH⟩ : ∃ H, H = s.heap := ⟨_, rfl⟩
  rw [← eH] at hW ⊢
  have hF : xFr (fun k => k = 1 ∨ k = 118 ∨ k = 119 ∨ k = 120) s0 s0 := xFr.rf
  have k1_1 : s0 1 1 = s0 1 1 := rfl
  refine x_aload_n hx hb hl 0 rfl dX5_readSum_0 rfl ?_
  refine x_iload_n hx hb hl 1 rfl dX5_readSum_1 rfl ?_
  refine x_goi (x_runV (As := [.int (xJ q)]) hx hb hml hown hT hE hW hl.1 (Or.inl (by decide)) (so_117 h0 g _) rfl cf_X5_readTerm wq656 wq17 wq654 (c_X5_readTermL2 l D g T h0 s0 hW.2.1 q rq (by omega) p0) ⟨rfl, rfl, ⟨by decide, by decide⟩, ⟨by decide, by decide⟩⟩ rfl rfl (Nat.le_of_ble_eq_true rfl) dX5_readSum_2) hW (fun x1 s2 H locs rx1 hp3 hW => ?_)
  obtain ⟨fs2, hp3⟩ := hp3
  have hF4 := hF.call fs2 (fun k h => by omega)
  have ghp3 := hp3.2
  refine x_if_ne (tgt := 10) hx hb rx1 dX5_readSum_5 (by decide) (fun c5 => ?_) (fun c5 => ?_)
  · skip
    refine x_iconst hx hb dX5_readSum_10 ?_
    refine lv_istore_n (lv' := [(2, .int (xJ 0)), (0, .ref (h0 + 117)), (1, .int (xJ q))]) hx hb dX5_readSum_11 rfl hl (by decide) rfl (fun ls hl => ?_)
    have L12 : ∀ (fu : Nat) (i2_12 : Int) (s_12 : xS) (H : Heap) (locs : List Loc) (ls : Array Slot), (xR i2_12) → (xFr (fun k => k = 1 ∨ k = 118 ∨ k = 119 ∨ k = 120) s0 s_12) → (IC s_12) → (s_12 1 1 = s0 1 1) → (0 ≤ i2_12) → (i2_12 ≤ 300) → (300 + 1 - i2_12).toNat < fu → xW D g h0 s H locs s_12 → lv_has ls 4 [(0, .ref (h0 + 117)), (1, .int (xJ q)), (2, .int (xJ i2_12))] → W p l e { frames := 17, cells := 0, slots := 0, locals := 384 } s m args below meth c H locs 0 0 Q (F0 m 12 ls []) := by
      intro fu
      induction fu with
      | zero => intro i2_12 s_12 H locs ls ri2_12 hF_12 q12_0 q12_1 v12_0 v12_1 hm; exact absurd hm (Nat.not_lt_zero _)
      | succ fu ih12 =>
        intro i2_12 s_12 H locs ls ri2_12 hF_12 q12_0 q12_1 v12_0 v12_1 hm hW hl
        refine x_iload_n hx hb hl 2 rfl dX5_readSum_12 rfl ?_
        refine x_sipush hx hb dX5_readSum_13 (by decide) ?_
        refine x_icmp_ge (tgt := 80) hx hb ri2_12 (by decide) dX5_readSum_16 (by decide) (fun c6 => ?_) (fun c6 => ?_)
        · skip
          refine x_iconst hx hb dX5_readSum_80 ?_
          rw [eQ]
          exact x_zret hx hb hr hlk hW (by omega) ⟨hF_12, ⟨q12_0, q12_1, trivial⟩, by omega⟩ dX5_readSum_81
        refine x_aload_n hx hb hl 0 rfl dX5_readSum_19 rfl ?_
        refine x_get (j := 0) (v := .ref (h0 + 1)) hx hb hown hT hE hW cls_X5 (Or.inl (by decide)) (so_117 h0 g _) (by decide) rfl wq293 dX5_readSum_20 ?_
        refine x_goi (x_runVN (As := []) hx hb hml hown hT hE hW hl.1 (Or.inl (by decide)) (so_1 h0 g _) rfl cf_X8_sign wq581 wq4 wn641 (c_X8_sign l D g T h0 s_12 hW.2.1 q12_0) ⟨rfl, rfl, ⟨by decide, by decide⟩, ⟨by decide, by decide⟩⟩ rfl rfl (Nat.le_of_ble_eq_true rfl) dX5_readSum_23) hW (fun x7 s8 H locs rx7 hp9 hW => ?_)
        obtain ⟨es8, hp9⟩ := hp9
        subst es8
        have ghp9 := hp9
        refine lv_istore_n (lv' := [(3, .int (xJ x7)), (0, .ref (h0 + 117)), (1, .int (xJ q)), (2, .int (xJ i2_12))]) hx hb dX5_readSum_26 rfl hl (by decide) rfl (fun ls hl => ?_)
        refine x_iload_n hx hb hl 0 rfl dX5_readSum_27 rfl ?_
        refine x_bipush hx hb dX5_readSum_28 (by decide) ?_
        have J41 : ∀ (ls : Array Slot), (x7 ≠ -1) → lv_has ls 4 [(0, .ref (h0 + 117)), (1, .int (xJ q)), (2, .int (xJ i2_12)), (3, .int (xJ x7))] → W p l e { frames := 17, cells := 0, slots := 0, locals := 384 } s m args below meth c H locs 0 0 Q (F0 m 41 ls []) := by
          intro ls v41_0  hl
          refine x_aload_n hx hb hl 0 rfl dX5_readSum_41 rfl ?_
          refine x_get (j := 0) (v := .ref (h0 + 1)) hx hb hown hT hE hW cls_X5 (Or.inl (by decide)) (so_117 h0 g _) (by decide) rfl wq293 dX5_readSum_42 ?_
          refine lv_dup hx hb dX5_readSum_45 rfl ?_
          refine x_getN (j := 3) (v := .int (xJ (s_12 1 3))) hx hb hown hT hE hW cls_X8 (Or.inl (by decide)) (so_1 h0 g _) (by decide) rfl wn201 dX5_readSum_46 ?_
          refine x_rd hW (fun x10 ex10 rx10 => ?_)
          refine x_iconst hx hb dX5_readSum_49 ?_
          refine x_iadd hx hb dX5_readSum_50 ?_
          refine x_putN (j := 3) hx hb hown hT hE hW cls_X8 (by decide) (fun σ => so_1 h0 g σ) (by decide) (st_X8_3 h0 s_12 1 (x10 + 1)) (ln_X8_3 h0 _ _) wn201 rfl rfl rfl (by omega) dX5_readSum_51 (fun H locs s11 es11 hW => ?_)
          have q12 : IC s11 := by rw [es11]; exact IC_1 q12_0 (by omega)
          have q13 : s11 1 1 = s0 1 1 := (show s11 1 1 = s_12 1 1 from by rw [es11, xU_j _ _ (by decide)]).trans q12_1
          have hF14 := hF_12.put es11 (by omega)
          refine x_aload_n hx hb hl 0 rfl dX5_readSum_54 rfl ?_
          refine x_iload_n hx hb hl 1 rfl dX5_readSum_55 rfl ?_
          refine x_goi (x_runV (As := [.int (xJ q)]) hx hb hml hown hT hE hW hl.1 (Or.inl (by decide)) (so_117 h0 g _) rfl cf_X5_readTerm wq656 wq17 wq654 (c_X5_readTermL2 l D g T h0 s11 hW.2.1 q rq (by omega) q12) ⟨rfl, rfl, ⟨by decide, by decide⟩, ⟨by decide, by decide⟩⟩ rfl rfl (Nat.le_of_ble_eq_true rfl) dX5_readSum_56) hW (fun x15 s16 H locs rx15 hp17 hW => ?_)
          obtain ⟨fs16, hp17⟩ := hp17
          have hF18 := hF14.call fs16 (fun k h => by omega)
          have ghp17 := hp17.2
          refine x_if_ne (tgt := 64) hx hb rx15 dX5_readSum_59 (by decide) (fun c19 => ?_) (fun c19 => ?_)
          · skip
            refine x_aload_n hx hb hl 0 rfl dX5_readSum_64 rfl ?_
            refine x_get (j := 1) (v := .ref (h0 + 118)) hx hb hown hT hE hW cls_X5 (Or.inl (by decide)) (so_117 h0 g _) (by decide) rfl wq294 dX5_readSum_65 ?_
            refine x_iload_n hx hb hl 3 rfl dX5_readSum_68 rfl ?_
            refine x_iconst hx hb dX5_readSum_69 ?_
            refine x_goi (x_runVN (As := [.int (xJ x7), .int (xJ 0)]) hx hb hml hown hT hE hW hl.1 (Or.inl (by decide)) (so_118 h0 g _) rfl cf_X4_put wq672 wq21 wn670 (c_X4_put l D g T h0 s16 hW.2.1 x7 rx7 0 (by decide) hp17.1.1) ⟨rfl, rfl, ⟨by decide, by decide⟩, ⟨by decide, by decide⟩⟩ rfl rfl (Nat.le_of_ble_eq_true rfl) dX5_readSum_70) hW (fun x20 s21 H locs rx20 hp22 hW => ?_)
            obtain ⟨fs21, hp22⟩ := hp22
            have hF23 := hF18.call fs21 (fun k h => by omega)
            have q24 : s21 1 1 = s0 1 1 := (congrFun (fs21 _ (by omega)) _).trans (hp17.1.2.1.trans q13)
            have ghp22 := hp22.2
            refine lv_pop hx hb dX5_readSum_73 rfl ?_
            refine x_iinc (lv' := [(2, .int (xJ (i2_12 + 1))), (0, .ref (h0 + 117)), (1, .int (xJ q)), (3, .int (xJ x7))]) hx hb hl 2 rfl dX5_readSum_74 (by decide) rfl (fun ls hl => ?_)
            refine lv_goto (tgt := 12) hx hb dX5_readSum_77 (by decide) ?_
            exact ih12 (i2_12 + 1) s21 H locs ls (by omega) hF23 hp22.1.1 q24 (by omega) (by omega) (by omega) hW (lv_sub hl [1, 2, 0] rfl)
          refine x_iconst hx hb dX5_readSum_62 ?_
          rw [eQ]
          exact x_zret hx hb hr hlk hW (by omega) ⟨hF18, ⟨hp17.1.1, (hp17.1.2.1.trans q13), trivial⟩, by omega⟩ dX5_readSum_63
        refine x_icmp_eq (tgt := 41) hx hb rx7 (by decide) dX5_readSum_30 (by decide) (fun c25 => ?_) (fun c25 => ?_)
        · skip
          exact J41 ls (by omega)  (lv_sub hl [1, 2, 3, 0] rfl)
        refine x_iload_n hx hb hl 0 rfl dX5_readSum_33 rfl ?_
        refine x_bipush hx hb dX5_readSum_34 (by decide) ?_
        refine x_icmp_eq (tgt := 41) hx hb rx7 (by decide) dX5_readSum_36 (by decide) (fun c26 => ?_) (fun c26 => ?_)
        · skip
          exact J41 ls (by omega)  (lv_sub hl [1, 2, 3, 0] rfl)
        refine x_iconst hx hb dX5_readSum_39 ?_
        rw [eQ]
        exact x_zret hx hb hr hlk hW (by omega) ⟨hF_12, ⟨q12_0, q12_1, trivial⟩, by omega⟩ dX5_readSum_40
    exact L12 ((300 + 1 - 0 : Int).toNat + 1) 0 s2 H locs ls (by decide) hF4 hp3.1.1 (hp3.1.2.1.trans k1_1) (by omega) (by omega) (Nat.lt_succ_self _) hW (lv_sub hl [1, 2, 0] rfl)
  refine x_iconst hx hb dX5_readSum_8 ?_
  rw [eQ]
  exact x_zret hx hb hr hlk hW (by omega) ⟨hF4, ⟨hp3.1.1, (hp3.1.2.1.trans k1_1), trivial⟩, by omega⟩ dX5_readSum_9
set_option maxHeartbeats 4000000 in
set_option maxRecDepth 100000 in
theorem c_X5_readFactorL1 (l : Launch) (D : va_G) (g : xG) (T : Nat × Nat × Nat) (h0 : Nat) (s0 : xS) (hσ : xRR s0) (q : Int) (rq : xR q) (hq : q = 1) (p0 : IC s0) : Met l yX5_readFactor (xws yX5_readFactor cX5_readFactor 4 (some .boolean)) { frames := 18, cells := 0, slots := 0, locals := 407 } (xP [.ref (h0 + 117), .int (xJ q)] D g T h0 s0) (xQi D g h0 (fun r τ => xFr (fun k => k = 1 ∨ k = 118 ∨ k = 119 ∨ k = 120) s0 τ ∧ (((IC τ) ∧ (τ 1 1 = s0 1 1) ∧ True) ∧ (r = 0 ∨ r = 1)))) 0 0 (xA h0) := by
  refine x_met hσ (by decide) (Nat.le_of_ble_eq_true rfl) ?_
  intro p e s m args below meth c hx hb hr hml hown hT hlk hnm hE hW ls hl
  have hl : lv_has ls 4 [(0, .ref (h0 + 117)), (1, .int (xJ q))] := hl
  obtain ⟨Q, eQ⟩ : ∃ Q, Q = MQ below (xQi D g h0 (fun r τ => xFr (fun k => k = 1 ∨ k = 118 ∨ k = 119 ∨ k = 120) s0 τ ∧ (((IC τ) ∧ (τ 1 1 = s0 1 1) ∧ True) ∧ (r = 0 ∨ r = 1)))) args s 0 0 (xA h0) := ⟨_, rfl⟩
  rw [← eQ]
  generalize hHe : ([] : List Loc) = locs at hW ⊢
  obtain ⟨H, eH⟩ : ∃ H, H = s.heap := ⟨_, rfl⟩
  rw [← eH] at hW ⊢
  have hF : xFr (fun k => k = 1 ∨ k = 118 ∨ k = 119 ∨ k = 120) s0 s0 := xFr.rf
  have k1_1 : s0 1 1 = s0 1 1 := rfl
  refine x_aload_n hx hb hl 0 rfl dX5_readFactor_0 rfl ?_
  refine x_get (j := 0) (v := .ref (h0 + 1)) hx hb hown hT hE hW cls_X5 (Or.inl (by decide)) (so_117 h0 g _) (by decide) rfl wq293 dX5_readFactor_1 ?_
  refine x_goi (x_runVN (As := []) hx hb hml hown hT hE hW hl.1 (Or.inl (by decide)) (so_1 h0 g _) rfl cf_X8_isDigit wq664 wq19 wn662 (c_X8_isDigit l D g T h0 s0 hW.2.1 p0) ⟨rfl, rfl, ⟨by decide, by decide⟩, ⟨by decide, by decide⟩⟩ rfl rfl (Nat.le_of_ble_eq_true rfl) dX5_readFactor_4) hW (fun x1 s2 H locs rx1 hp3 hW => ?_)
  obtain ⟨es2, hp3⟩ := hp3
  subst es2
  have ghp3 := hp3
  refine x_if_eq (tgt := 15) hx hb rx1 dX5_readFactor_7 (by decide) (fun c4 => ?_) (fun c4 => ?_)
  · skip
    refine x_aload_n hx hb hl 0 rfl dX5_readFactor_15 rfl ?_
    refine x_get (j := 0) (v := .ref (h0 + 1)) hx hb hown hT hE hW cls_X5 (Or.inl (by decide)) (so_117 h0 g _) (by decide) rfl wq293 dX5_readFactor_16 ?_
    refine x_goi (x_runVN (As := []) hx hb hml hown hT hE hW hl.1 (Or.inl (by decide)) (so_1 h0 g _) rfl cf_X8_sign wq581 wq4 wn641 (c_X8_sign l D g T h0 s0 hW.2.1 p0) ⟨rfl, rfl, ⟨by decide, by decide⟩, ⟨by decide, by decide⟩⟩ rfl rfl (Nat.le_of_ble_eq_true rfl) dX5_readFactor_19) hW (fun x5 s6 H locs rx5 hp7 hW => ?_)
    obtain ⟨es6, hp7⟩ := hp7
    subst es6
    have ghp7 := hp7
    refine lv_istore_n (lv' := [(2, .int (xJ x5)), (0, .ref (h0 + 117)), (1, .int (xJ q))]) hx hb dX5_readFactor_22 rfl hl (by decide) rfl (fun ls hl => ?_)
    refine x_iload_n hx hb hl 0 rfl dX5_readFactor_23 rfl ?_
    refine x_bipush hx hb dX5_readFactor_24 (by decide) ?_
    refine x_icmp_ne (tgt := 92) hx hb rx5 (by decide) dX5_readFactor_26 (by decide) (fun c8 => ?_) (fun c8 => ?_)
    · skip
      refine x_iload_n hx hb hl 0 rfl dX5_readFactor_92 rfl ?_
      refine x_goi (x_runSN (As := [.int (xJ x5)]) hx hb hml hown hT hE hW hl.1 cf_X4_placeOfLetter wq676 wn675 (c_X4_placeOfLetter l D g T h0 s0 hW.2.1 x5 rx5) ⟨rfl, rfl, ⟨by decide, by decide⟩, ⟨by decide, by decide⟩⟩ rfl rfl (Nat.le_of_ble_eq_true rfl) dX5_readFactor_93) hW (fun x9 s10 H locs rx9 hp11 hW => ?_)
      obtain ⟨es10, hp11⟩ := hp11
      subst es10
      have ghp11 := hp11
      refine lv_istore_n (lv' := [(3, .int (xJ x9)), (2, .int (xJ x5)), (0, .ref (h0 + 117)), (1, .int (xJ q))]) hx hb dX5_readFactor_96 rfl hl (by decide) rfl (fun ls hl => ?_)
      refine x_iload_n hx hb hl 0 rfl dX5_readFactor_97 rfl ?_
      refine x_iconst hx hb dX5_readFactor_98 ?_
      refine x_icmp_ne (tgt := 118) hx hb rx9 (by decide) dX5_readFactor_99 (by decide) (fun c12 => ?_) (fun c12 => ?_)
      · skip
        refine x_aload_n hx hb hl 2 rfl dX5_readFactor_118 rfl ?_
        refine x_get (j := 0) (v := .ref (h0 + 1)) hx hb hown hT hE hW cls_X5 (Or.inl (by decide)) (so_117 h0 g _) (by decide) rfl wq293 dX5_readFactor_119 ?_
        refine lv_dup hx hb dX5_readFactor_122 rfl ?_
        refine x_getN (j := 3) (v := .int (xJ (s0 1 3))) hx hb hown hT hE hW cls_X8 (Or.inl (by decide)) (so_1 h0 g _) (by decide) rfl wn201 dX5_readFactor_123 ?_
        refine x_rd hW (fun x13 ex13 rx13 => ?_)
        refine x_iconst hx hb dX5_readFactor_126 ?_
        refine x_iadd hx hb dX5_readFactor_127 ?_
        refine x_putN (j := 3) hx hb hown hT hE hW cls_X8 (by decide) (fun σ => so_1 h0 g σ) (by decide) (st_X8_3 h0 s0 1 (x13 + 1)) (ln_X8_3 h0 _ _) wn201 rfl rfl rfl (by omega) dX5_readFactor_128 (fun H locs s14 es14 hW => ?_)
        have q15 : IC s14 := by rw [es14]; exact IC_1 p0 (by omega)
        have q16 : s14 1 1 = s0 1 1 := (show s14 1 1 = s0 1 1 from by rw [es14, xU_j _ _ (by decide)]).trans k1_1
        have hF17 := hF.put es14 (by omega)
        refine x_aload_n hx hb hl 2 rfl dX5_readFactor_131 rfl ?_
        refine x_get (j := 1) (v := .ref (h0 + 118)) hx hb hown hT hE hW cls_X5 (Or.inl (by decide)) (so_117 h0 g _) (by decide) rfl wq294 dX5_readFactor_132 ?_
        refine x_iconst hx hb dX5_readFactor_135 ?_
        refine x_iload_n hx hb hl 0 rfl dX5_readFactor_136 rfl ?_
        refine x_goi (x_runVN (As := [.int (xJ 2), .int (xJ x9)]) hx hb hml hown hT hE hW hl.1 (Or.inl (by decide)) (so_118 h0 g _) rfl cf_X4_put wq672 wq21 wn670 (c_X4_put l D g T h0 s14 hW.2.1 2 (by decide) x9 rx9 q15) ⟨rfl, rfl, ⟨by decide, by decide⟩, ⟨by decide, by decide⟩⟩ rfl rfl (Nat.le_of_ble_eq_true rfl) dX5_readFactor_137) hW (fun x18 s19 H locs rx18 hp20 hW => ?_)
        obtain ⟨fs19, hp20⟩ := hp20
        have hF21 := hF17.call fs19 (fun k h => by omega)
        have q22 : s19 1 1 = s0 1 1 := (congrFun (fs19 _ (by omega)) _).trans q16
        have ghp20 := hp20.2
        refine lv_pop hx hb dX5_readFactor_140 rfl ?_
        refine x_iconst hx hb dX5_readFactor_141 ?_
        rw [eQ]
        exact x_zret hx hb hr hlk hW (by omega) ⟨hF21, ⟨hp20.1.1, q22, trivial⟩, by omega⟩ dX5_readFactor_142
      refine x_aload_n hx hb hl 2 rfl dX5_readFactor_102 rfl ?_
      refine x_get (j := 0) (v := .ref (h0 + 1)) hx hb hown hT hE hW cls_X5 (Or.inl (by decide)) (so_117 h0 g _) (by decide) rfl wq293 dX5_readFactor_103 ?_
      refine x_iconst hx hb dX5_readFactor_106 ?_
      refine x_aload_n hx hb hl 2 rfl dX5_readFactor_107 rfl ?_
      refine x_get (j := 0) (v := .ref (h0 + 1)) hx hb hown hT hE hW cls_X5 (Or.inl (by decide)) (so_117 h0 g _) (by decide) rfl wq293 dX5_readFactor_108 ?_
      refine x_getN (j := 3) (v := .int (xJ (s0 1 3))) hx hb hown hT hE hW cls_X8 (Or.inl (by decide)) (so_1 h0 g _) (by decide) rfl wn201 dX5_readFactor_111 ?_
      refine x_rd hW (fun x23 ex23 rx23 => ?_)
      refine x_goi (x_runVN (As := [.int (xJ 1), .int (xJ x23)]) hx hb hml hown hT hE hW hl.1 (Or.inl (by decide)) (so_1 h0 g _) rfl cf_X8_fails wq588 wq5 wn645 (c_X8_fails l D g T h0 s0 hW.2.1 1 (by decide) x23 rx23 p0) ⟨rfl, rfl, ⟨by decide, by decide⟩, ⟨by decide, by decide⟩⟩ rfl rfl (Nat.le_of_ble_eq_true rfl) dX5_readFactor_114) hW (fun x24 s25 H locs rx24 hp26 hW => ?_)
      obtain ⟨fs25, hp26⟩ := hp26
      have hF27 := hF.call fs25 (fun k h => by omega)
      have ghp26 := hp26.2
      rw [eQ]
      exact x_zret hx hb hr hlk hW (by omega) ⟨hF27, ⟨hp26.1.1, (hp26.1.2.1.trans k1_1), trivial⟩, by omega⟩ dX5_readFactor_117
    refine x_iload_n hx hb hl 2 rfl dX5_readFactor_29 rfl ?_
    refine x_bipush hx hb dX5_readFactor_30 (by decide) ?_
    refine x_icmp_lt (tgt := 51) hx hb rq (by decide) dX5_readFactor_32 (by decide) (fun c28 => ?_) (fun c28 => False.elim (by omega))
    refine x_aload_n hx hb hl 1 rfl dX5_readFactor_51 rfl ?_
    refine x_get (j := 0) (v := .ref (h0 + 1)) hx hb hown hT hE hW cls_X5 (Or.inl (by decide)) (so_117 h0 g _) (by decide) rfl wq293 dX5_readFactor_52 ?_
    refine lv_dup hx hb dX5_readFactor_55 rfl ?_
    refine x_getN (j := 3) (v := .int (xJ (s0 1 3))) hx hb hown hT hE hW cls_X8 (Or.inl (by decide)) (so_1 h0 g _) (by decide) rfl wn201 dX5_readFactor_56 ?_
    refine x_rd hW (fun x29 ex29 rx29 => ?_)
    refine x_iconst hx hb dX5_readFactor_59 ?_
    refine x_iadd hx hb dX5_readFactor_60 ?_
    refine x_putN (j := 3) hx hb hown hT hE hW cls_X8 (by decide) (fun σ => so_1 h0 g σ) (by decide) (st_X8_3 h0 s0 1 (x29 + 1)) (ln_X8_3 h0 _ _) wn201 rfl rfl rfl (by omega) dX5_readFactor_61 (fun H locs s30 es30 hW => ?_)
    have q31 : IC s30 := by rw [es30]; exact IC_1 p0 (by omega)
    have q32 : s30 1 1 = s0 1 1 := (show s30 1 1 = s0 1 1 from by rw [es30, xU_j _ _ (by decide)]).trans k1_1
    have hF33 := hF.put es30 (by omega)
    refine x_aload_n hx hb hl 1 rfl dX5_readFactor_64 rfl ?_
    refine x_iload_n hx hb hl 2 rfl dX5_readFactor_65 rfl ?_
    refine x_iconst hx hb dX5_readFactor_66 ?_
    refine x_iadd hx hb dX5_readFactor_67 ?_
    refine x_goi (x_runV (As := [.int (xJ (q + 1))]) hx hb hml hown hT hE hW hl.1 (Or.inl (by decide)) (so_117 h0 g _) rfl cf_X5_readSum wq652 wq16 wq650 (c_X5_readSumL2 l D g T h0 s30 hW.2.1 (q + 1) (by omega) (by omega) q31) ⟨rfl, rfl, ⟨by decide, by decide⟩, ⟨by decide, by decide⟩⟩ rfl rfl (Nat.le_of_ble_eq_true rfl) dX5_readFactor_68) hW (fun x34 s35 H locs rx34 hp36 hW => ?_)
    obtain ⟨fs35, hp36⟩ := hp36
    have hF37 := hF33.call fs35 (fun k h => by omega)
    have ghp36 := hp36.2
    refine x_if_eq (tgt := 90) hx hb rx34 dX5_readFactor_71 (by decide) (fun c38 => ?_) (fun c38 => ?_)
    · skip
      refine x_iconst hx hb dX5_readFactor_90 ?_
      rw [eQ]
      exact x_zret hx hb hr hlk hW (by omega) ⟨hF37, ⟨hp36.1.1, (hp36.1.2.1.trans q32), trivial⟩, by omega⟩ dX5_readFactor_91
    refine x_aload_n hx hb hl 1 rfl dX5_readFactor_74 rfl ?_
    refine x_get (j := 0) (v := .ref (h0 + 1)) hx hb hown hT hE hW cls_X5 (Or.inl (by decide)) (so_117 h0 g _) (by decide) rfl wq293 dX5_readFactor_75 ?_
    refine x_bipush hx hb dX5_readFactor_78 (by decide) ?_
    refine x_goi (x_runVN (As := [.int (xJ 93)]) hx hb hml hown hT hE hW hl.1 (Or.inl (by decide)) (so_1 h0 g _) rfl cf_X8_passes wq598 wq6 wn674 (c_X8_passes l D g T h0 s35 hW.2.1 93 (by decide) hp36.1.1) ⟨rfl, rfl, ⟨by decide, by decide⟩, ⟨by decide, by decide⟩⟩ rfl rfl (Nat.le_of_ble_eq_true rfl) dX5_readFactor_80) hW (fun x39 s40 H locs rx39 hp41 hW => ?_)
    obtain ⟨fs40, hp41⟩ := hp41
    have hF42 := hF37.call fs40 (fun k h => by omega)
    have ghp41 := hp41.2
    refine x_if_eq (tgt := 90) hx hb rx39 dX5_readFactor_83 (by decide) (fun c43 => ?_) (fun c43 => ?_)
    · skip
      refine x_iconst hx hb dX5_readFactor_90 ?_
      rw [eQ]
      exact x_zret hx hb hr hlk hW (by omega) ⟨hF42, ⟨hp41.1.1, (hp41.1.2.1.trans (hp36.1.2.1.trans q32)), trivial⟩, by omega⟩ dX5_readFactor_91
    refine x_iconst hx hb dX5_readFactor_86 ?_
    refine lv_goto (tgt := 91) hx hb dX5_readFactor_87 (by decide) ?_
    rw [eQ]
    exact x_zret hx hb hr hlk hW (by omega) ⟨hF42, ⟨hp41.1.1, (hp41.1.2.1.trans (hp36.1.2.1.trans q32)), trivial⟩, by omega⟩ dX5_readFactor_91
  refine x_aload_n hx hb hl 0 rfl dX5_readFactor_10 rfl ?_
  refine x_goi (x_runV (As := []) hx hb hml hown hT hE hW hl.1 (Or.inl (by decide)) (so_117 h0 g _) rfl cf_X5_readNumber wq668 wq20 wq666 (c_X5_readNumber l D g T h0 s0 hW.2.1 p0) ⟨rfl, rfl, ⟨by decide, by decide⟩, ⟨by decide, by decide⟩⟩ rfl rfl (Nat.le_of_ble_eq_true rfl) dX5_readFactor_11) hW (fun x44 s45 H locs rx44 hp46 hW => ?_)
  obtain ⟨fs45, hp46⟩ := hp46
  have hF47 := hF.call fs45 (fun k h => by omega)
  have ghp46 := hp46.2
  rw [eQ]
  exact x_zret hx hb hr hlk hW (by omega) ⟨hF47, ⟨hp46.1.1, (hp46.1.2.1.trans k1_1), trivial⟩, by omega⟩ dX5_readFactor_14
set_option maxHeartbeats 4000000 in
set_option maxRecDepth 100000 in
theorem c_X5_readTermL1 (l : Launch) (D : va_G) (g : xG) (T : Nat × Nat × Nat) (h0 : Nat) (s0 : xS) (hσ : xRR s0) (q : Int) (rq : xR q) (hq : q = 1) (p0 : IC s0) : Met l yX5_readTerm (xws yX5_readTerm cX5_readTerm 4 (some .boolean)) { frames := 19, cells := 0, slots := 0, locals := 430 } (xP [.ref (h0 + 117), .int (xJ q)] D g T h0 s0) (xQi D g h0 (fun r τ => xFr (fun k => k = 1 ∨ k = 118 ∨ k = 119 ∨ k = 120) s0 τ ∧ (((IC τ) ∧ (τ 1 1 = s0 1 1) ∧ True) ∧ (r = 0 ∨ r = 1)))) 0 0 (xA h0) := by
  refine x_met hσ (by decide) (Nat.le_of_ble_eq_true rfl) ?_
  intro p e s m args below meth c hx hb hr hml hown hT hlk hnm hE hW ls hl
  have hl : lv_has ls 4 [(0, .ref (h0 + 117)), (1, .int (xJ q))] := hl
  obtain ⟨Q, eQ⟩ : ∃ Q, Q = MQ below (xQi D g h0 (fun r τ => xFr (fun k => k = 1 ∨ k = 118 ∨ k = 119 ∨ k = 120) s0 τ ∧ (((IC τ) ∧ (τ 1 1 = s0 1 1) ∧ True) ∧ (r = 0 ∨ r = 1)))) args s 0 0 (xA h0) := ⟨_, rfl⟩
  rw [← eQ]
  generalize hHe : ([] : List Loc) = locs at hW ⊢
  obtain ⟨H, eH⟩ : ∃ H, H = s.heap := ⟨_, rfl⟩
  rw [← eH] at hW ⊢
  have hF : xFr (fun k => k = 1 ∨ k = 118 ∨ k = 119 ∨ k = 120) s0 s0 := xFr.rf
  have k1_1 : s0 1 1 = s0 1 1 := rfl
  refine x_aload_n hx hb hl 0 rfl dX5_readTerm_0 rfl ?_
  refine x_iload_n hx hb hl 1 rfl dX5_readTerm_1 rfl ?_
  refine x_goi (x_runV (As := [.int (xJ q)]) hx hb hml hown hT hE hW hl.1 (Or.inl (by decide)) (so_117 h0 g _) rfl cf_X5_readFactor wq660 wq18 wq658 (c_X5_readFactorL1 l D g T h0 s0 hW.2.1 q rq (by omega) p0) ⟨rfl, rfl, ⟨by decide, by decide⟩, ⟨by decide, by decide⟩⟩ rfl rfl (Nat.le_of_ble_eq_true rfl) dX5_readTerm_2) hW (fun x1 s2 H locs rx1 hp3 hW => ?_)
  obtain ⟨fs2, hp3⟩ := hp3
  have hF4 := hF.call fs2 (fun k h => by omega)
  have ghp3 := hp3.2
  refine x_if_ne (tgt := 10) hx hb rx1 dX5_readTerm_5 (by decide) (fun c5 => ?_) (fun c5 => ?_)
  · skip
    refine x_iconst hx hb dX5_readTerm_10 ?_
    refine lv_istore_n (lv' := [(2, .int (xJ 0)), (0, .ref (h0 + 117)), (1, .int (xJ q))]) hx hb dX5_readTerm_11 rfl hl (by decide) rfl (fun ls hl => ?_)
    have L12 : ∀ (fu : Nat) (i2_12 : Int) (s_12 : xS) (H : Heap) (locs : List Loc) (ls : Array Slot), (xR i2_12) → (xFr (fun k => k = 1 ∨ k = 118 ∨ k = 119 ∨ k = 120) s0 s_12) → (IC s_12) → (s_12 1 1 = s0 1 1) → (0 ≤ i2_12) → (i2_12 ≤ 300) → (300 + 1 - i2_12).toNat < fu → xW D g h0 s H locs s_12 → lv_has ls 4 [(0, .ref (h0 + 117)), (1, .int (xJ q)), (2, .int (xJ i2_12))] → W p l e { frames := 19, cells := 0, slots := 0, locals := 430 } s m args below meth c H locs 0 0 Q (F0 m 12 ls []) := by
      intro fu
      induction fu with
      | zero => intro i2_12 s_12 H locs ls ri2_12 hF_12 q12_0 q12_1 v12_0 v12_1 hm; exact absurd hm (Nat.not_lt_zero _)
      | succ fu ih12 =>
        intro i2_12 s_12 H locs ls ri2_12 hF_12 q12_0 q12_1 v12_0 v12_1 hm hW hl
        refine x_iload_n hx hb hl 2 rfl dX5_readTerm_12 rfl ?_
        refine x_sipush hx hb dX5_readTerm_13 (by decide) ?_
        refine x_icmp_ge (tgt := 86) hx hb ri2_12 (by decide) dX5_readTerm_16 (by decide) (fun c6 => ?_) (fun c6 => ?_)
        · skip
          refine x_iconst hx hb dX5_readTerm_86 ?_
          rw [eQ]
          exact x_zret hx hb hr hlk hW (by omega) ⟨hF_12, ⟨q12_0, q12_1, trivial⟩, by omega⟩ dX5_readTerm_87
        refine x_aload_n hx hb hl 0 rfl dX5_readTerm_19 rfl ?_
        refine x_get (j := 0) (v := .ref (h0 + 1)) hx hb hown hT hE hW cls_X5 (Or.inl (by decide)) (so_117 h0 g _) (by decide) rfl wq293 dX5_readTerm_20 ?_
        refine x_goi (x_runVN (As := []) hx hb hml hown hT hE hW hl.1 (Or.inl (by decide)) (so_1 h0 g _) rfl cf_X8_sign wq581 wq4 wn641 (c_X8_sign l D g T h0 s_12 hW.2.1 q12_0) ⟨rfl, rfl, ⟨by decide, by decide⟩, ⟨by decide, by decide⟩⟩ rfl rfl (Nat.le_of_ble_eq_true rfl) dX5_readTerm_23) hW (fun x7 s8 H locs rx7 hp9 hW => ?_)
        obtain ⟨es8, hp9⟩ := hp9
        subst es8
        have ghp9 := hp9
        refine lv_istore_n (lv' := [(3, .int (xJ x7)), (0, .ref (h0 + 117)), (1, .int (xJ q)), (2, .int (xJ i2_12))]) hx hb dX5_readTerm_26 rfl hl (by decide) rfl (fun ls hl => ?_)
        refine x_iload_n hx hb hl 0 rfl dX5_readTerm_27 rfl ?_
        refine x_bipush hx hb dX5_readTerm_28 (by decide) ?_
        have J47 : ∀ (ls : Array Slot), (x7 ≠ -1) → lv_has ls 4 [(0, .ref (h0 + 117)), (1, .int (xJ q)), (2, .int (xJ i2_12)), (3, .int (xJ x7))] → W p l e { frames := 19, cells := 0, slots := 0, locals := 430 } s m args below meth c H locs 0 0 Q (F0 m 47 ls []) := by
          intro ls v47_0  hl
          refine x_aload_n hx hb hl 0 rfl dX5_readTerm_47 rfl ?_
          refine x_get (j := 0) (v := .ref (h0 + 1)) hx hb hown hT hE hW cls_X5 (Or.inl (by decide)) (so_117 h0 g _) (by decide) rfl wq293 dX5_readTerm_48 ?_
          refine lv_dup hx hb dX5_readTerm_51 rfl ?_
          refine x_getN (j := 3) (v := .int (xJ (s_12 1 3))) hx hb hown hT hE hW cls_X8 (Or.inl (by decide)) (so_1 h0 g _) (by decide) rfl wn201 dX5_readTerm_52 ?_
          refine x_rd hW (fun x10 ex10 rx10 => ?_)
          refine x_iconst hx hb dX5_readTerm_55 ?_
          refine x_iadd hx hb dX5_readTerm_56 ?_
          refine x_putN (j := 3) hx hb hown hT hE hW cls_X8 (by decide) (fun σ => so_1 h0 g σ) (by decide) (st_X8_3 h0 s_12 1 (x10 + 1)) (ln_X8_3 h0 _ _) wn201 rfl rfl rfl (by omega) dX5_readTerm_57 (fun H locs s11 es11 hW => ?_)
          have q12 : IC s11 := by rw [es11]; exact IC_1 q12_0 (by omega)
          have q13 : s11 1 1 = s0 1 1 := (show s11 1 1 = s_12 1 1 from by rw [es11, xU_j _ _ (by decide)]).trans q12_1
          have hF14 := hF_12.put es11 (by omega)
          refine x_aload_n hx hb hl 0 rfl dX5_readTerm_60 rfl ?_
          refine x_iload_n hx hb hl 1 rfl dX5_readTerm_61 rfl ?_
          refine x_goi (x_runV (As := [.int (xJ q)]) hx hb hml hown hT hE hW hl.1 (Or.inl (by decide)) (so_117 h0 g _) rfl cf_X5_readFactor wq660 wq18 wq658 (c_X5_readFactorL1 l D g T h0 s11 hW.2.1 q rq (by omega) q12) ⟨rfl, rfl, ⟨by decide, by decide⟩, ⟨by decide, by decide⟩⟩ rfl rfl (Nat.le_of_ble_eq_true rfl) dX5_readTerm_62) hW (fun x15 s16 H locs rx15 hp17 hW => ?_)
          obtain ⟨fs16, hp17⟩ := hp17
          have hF18 := hF14.call fs16 (fun k h => by omega)
          have ghp17 := hp17.2
          refine x_if_ne (tgt := 70) hx hb rx15 dX5_readTerm_65 (by decide) (fun c19 => ?_) (fun c19 => ?_)
          · skip
            refine x_aload_n hx hb hl 0 rfl dX5_readTerm_70 rfl ?_
            refine x_get (j := 1) (v := .ref (h0 + 118)) hx hb hown hT hE hW cls_X5 (Or.inl (by decide)) (so_117 h0 g _) (by decide) rfl wq294 dX5_readTerm_71 ?_
            refine x_iload_n hx hb hl 3 rfl dX5_readTerm_74 rfl ?_
            refine x_iconst hx hb dX5_readTerm_75 ?_
            refine x_goi (x_runVN (As := [.int (xJ x7), .int (xJ 0)]) hx hb hml hown hT hE hW hl.1 (Or.inl (by decide)) (so_118 h0 g _) rfl cf_X4_put wq672 wq21 wn670 (c_X4_put l D g T h0 s16 hW.2.1 x7 rx7 0 (by decide) hp17.1.1) ⟨rfl, rfl, ⟨by decide, by decide⟩, ⟨by decide, by decide⟩⟩ rfl rfl (Nat.le_of_ble_eq_true rfl) dX5_readTerm_76) hW (fun x20 s21 H locs rx20 hp22 hW => ?_)
            obtain ⟨fs21, hp22⟩ := hp22
            have hF23 := hF18.call fs21 (fun k h => by omega)
            have q24 : s21 1 1 = s0 1 1 := (congrFun (fs21 _ (by omega)) _).trans (hp17.1.2.1.trans q13)
            have ghp22 := hp22.2
            refine lv_pop hx hb dX5_readTerm_79 rfl ?_
            refine x_iinc (lv' := [(2, .int (xJ (i2_12 + 1))), (0, .ref (h0 + 117)), (1, .int (xJ q)), (3, .int (xJ x7))]) hx hb hl 2 rfl dX5_readTerm_80 (by decide) rfl (fun ls hl => ?_)
            refine lv_goto (tgt := 12) hx hb dX5_readTerm_83 (by decide) ?_
            exact ih12 (i2_12 + 1) s21 H locs ls (by omega) hF23 hp22.1.1 q24 (by omega) (by omega) (by omega) hW (lv_sub hl [1, 2, 0] rfl)
          refine x_iconst hx hb dX5_readTerm_68 ?_
          rw [eQ]
          exact x_zret hx hb hr hlk hW (by omega) ⟨hF18, ⟨hp17.1.1, (hp17.1.2.1.trans q13), trivial⟩, by omega⟩ dX5_readTerm_69
        refine x_icmp_eq (tgt := 47) hx hb rx7 (by decide) dX5_readTerm_30 (by decide) (fun c25 => ?_) (fun c25 => ?_)
        · skip
          exact J47 ls (by omega)  (lv_sub hl [1, 2, 3, 0] rfl)
        refine x_iload_n hx hb hl 0 rfl dX5_readTerm_33 rfl ?_
        refine x_bipush hx hb dX5_readTerm_34 (by decide) ?_
        refine x_icmp_eq (tgt := 47) hx hb rx7 (by decide) dX5_readTerm_36 (by decide) (fun c26 => ?_) (fun c26 => ?_)
        · skip
          exact J47 ls (by omega)  (lv_sub hl [1, 2, 3, 0] rfl)
        refine x_iload_n hx hb hl 0 rfl dX5_readTerm_39 rfl ?_
        refine x_bipush hx hb dX5_readTerm_40 (by decide) ?_
        refine x_icmp_eq (tgt := 47) hx hb rx7 (by decide) dX5_readTerm_42 (by decide) (fun c27 => ?_) (fun c27 => ?_)
        · skip
          exact J47 ls (by omega)  (lv_sub hl [1, 2, 3, 0] rfl)
        refine x_iconst hx hb dX5_readTerm_45 ?_
        rw [eQ]
        exact x_zret hx hb hr hlk hW (by omega) ⟨hF_12, ⟨q12_0, q12_1, trivial⟩, by omega⟩ dX5_readTerm_46
    exact L12 ((300 + 1 - 0 : Int).toNat + 1) 0 s2 H locs ls (by decide) hF4 hp3.1.1 (hp3.1.2.1.trans k1_1) (by omega) (by omega) (Nat.lt_succ_self _) hW (lv_sub hl [1, 2, 0] rfl)
  refine x_iconst hx hb dX5_readTerm_8 ?_
  rw [eQ]
  exact x_zret hx hb hr hlk hW (by omega) ⟨hF4, ⟨hp3.1.1, (hp3.1.2.1.trans k1_1), trivial⟩, by omega⟩ dX5_readTerm_9
set_option maxHeartbeats 4000000 in
set_option maxRecDepth 100000 in
theorem c_X5_readSumL1 (l : Launch) (D : va_G) (g : xG) (T : Nat × Nat × Nat) (h0 : Nat) (s0 : xS) (hσ : xRR s0) (q : Int) (rq : xR q) (hq : q = 1) (p0 : IC s0) : Met l yX5_readSum (xws yX5_readSum cX5_readSum 4 (some .boolean)) { frames := 20, cells := 0, slots := 0, locals := 453 } (xP [.ref (h0 + 117), .int (xJ q)] D g T h0 s0) (xQi D g h0 (fun r τ => xFr (fun k => k = 1 ∨ k = 118 ∨ k = 119 ∨ k = 120) s0 τ ∧ (((IC τ) ∧ (τ 1 1 = s0 1 1) ∧ True) ∧ (r = 0 ∨ r = 1)))) 0 0 (xA h0) := by
  refine x_met hσ (by decide) (Nat.le_of_ble_eq_true rfl) ?_
  intro p e s m args below meth c hx hb hr hml hown hT hlk hnm hE hW ls hl
  have hl : lv_has ls 4 [(0, .ref (h0 + 117)), (1, .int (xJ q))] := hl
  obtain ⟨Q, eQ⟩ : ∃ Q, Q = MQ below (xQi D g h0 (fun r τ => xFr (fun k => k = 1 ∨ k = 118 ∨ k = 119 ∨ k = 120) s0 τ ∧ (((IC τ) ∧ (τ 1 1 = s0 1 1) ∧ True) ∧ (r = 0 ∨ r = 1)))) args s 0 0 (xA h0) := ⟨_, rfl⟩
  rw [← eQ]
  generalize hHe : ([] : List Loc) = locs at hW ⊢
  obtain ⟨H, eH⟩ : ∃ H, H = s.heap := ⟨_, rfl⟩
  rw [← eH] at hW ⊢
  have hF : xFr (fun k => k = 1 ∨ k = 118 ∨ k = 119 ∨ k = 120) s0 s0 := xFr.rf
  have k1_1 : s0 1 1 = s0 1 1 := rfl
  refine x_aload_n hx hb hl 0 rfl dX5_readSum_0 rfl ?_
  refine x_iload_n hx hb hl 1 rfl dX5_readSum_1 rfl ?_
  refine x_goi (x_runV (As := [.int (xJ q)]) hx hb hml hown hT hE hW hl.1 (Or.inl (by decide)) (so_117 h0 g _) rfl cf_X5_readTerm wq656 wq17 wq654 (c_X5_readTermL1 l D g T h0 s0 hW.2.1 q rq (by omega) p0) ⟨rfl, rfl, ⟨by decide, by decide⟩, ⟨by decide, by decide⟩⟩ rfl rfl (Nat.le_of_ble_eq_true rfl) dX5_readSum_2) hW (fun x1 s2 H locs rx1 hp3 hW => ?_)
  obtain ⟨fs2, hp3⟩ := hp3
  have hF4 := hF.call fs2 (fun k h => by omega)
  have ghp3 := hp3.2
  refine x_if_ne (tgt := 10) hx hb rx1 dX5_readSum_5 (by decide) (fun c5 => ?_) (fun c5 => ?_)
  · skip
    refine x_iconst hx hb dX5_readSum_10 ?_
    refine lv_istore_n (lv' := [(2, .int (xJ 0)), (0, .ref (h0 + 117)), (1, .int (xJ q))]) hx hb dX5_readSum_11 rfl hl (by decide) rfl (fun ls hl => ?_)
    have L12 : ∀ (fu : Nat) (i2_12 : Int) (s_12 : xS) (H : Heap) (locs : List Loc) (ls : Array Slot), (xR i2_12) → (xFr (fun k => k = 1 ∨ k = 118 ∨ k = 119 ∨ k = 120) s0 s_12) → (IC s_12) → (s_12 1 1 = s0 1 1) → (0 ≤ i2_12) → (i2_12 ≤ 300) → (300 + 1 - i2_12).toNat < fu → xW D g h0 s H locs s_12 → lv_has ls 4 [(0, .ref (h0 + 117)), (1, .int (xJ q)), (2, .int (xJ i2_12))] → W p l e { frames := 20, cells := 0, slots := 0, locals := 453 } s m args below meth c H locs 0 0 Q (F0 m 12 ls []) := by
      intro fu
      induction fu with
      | zero => intro i2_12 s_12 H locs ls ri2_12 hF_12 q12_0 q12_1 v12_0 v12_1 hm; exact absurd hm (Nat.not_lt_zero _)
      | succ fu ih12 =>
        intro i2_12 s_12 H locs ls ri2_12 hF_12 q12_0 q12_1 v12_0 v12_1 hm hW hl
        refine x_iload_n hx hb hl 2 rfl dX5_readSum_12 rfl ?_
        refine x_sipush hx hb dX5_readSum_13 (by decide) ?_
        refine x_icmp_ge (tgt := 80) hx hb ri2_12 (by decide) dX5_readSum_16 (by decide) (fun c6 => ?_) (fun c6 => ?_)
        · skip
          refine x_iconst hx hb dX5_readSum_80 ?_
          rw [eQ]
          exact x_zret hx hb hr hlk hW (by omega) ⟨hF_12, ⟨q12_0, q12_1, trivial⟩, by omega⟩ dX5_readSum_81
        refine x_aload_n hx hb hl 0 rfl dX5_readSum_19 rfl ?_
        refine x_get (j := 0) (v := .ref (h0 + 1)) hx hb hown hT hE hW cls_X5 (Or.inl (by decide)) (so_117 h0 g _) (by decide) rfl wq293 dX5_readSum_20 ?_
        refine x_goi (x_runVN (As := []) hx hb hml hown hT hE hW hl.1 (Or.inl (by decide)) (so_1 h0 g _) rfl cf_X8_sign wq581 wq4 wn641 (c_X8_sign l D g T h0 s_12 hW.2.1 q12_0) ⟨rfl, rfl, ⟨by decide, by decide⟩, ⟨by decide, by decide⟩⟩ rfl rfl (Nat.le_of_ble_eq_true rfl) dX5_readSum_23) hW (fun x7 s8 H locs rx7 hp9 hW => ?_)
        obtain ⟨es8, hp9⟩ := hp9
        subst es8
        have ghp9 := hp9
        refine lv_istore_n (lv' := [(3, .int (xJ x7)), (0, .ref (h0 + 117)), (1, .int (xJ q)), (2, .int (xJ i2_12))]) hx hb dX5_readSum_26 rfl hl (by decide) rfl (fun ls hl => ?_)
        refine x_iload_n hx hb hl 0 rfl dX5_readSum_27 rfl ?_
        refine x_bipush hx hb dX5_readSum_28 (by decide) ?_
        have J41 : ∀ (ls : Array Slot), (x7 ≠ -1) → lv_has ls 4 [(0, .ref (h0 + 117)), (1, .int (xJ q)), (2, .int (xJ i2_12)), (3, .int (xJ x7))] → W p l e { frames := 20, cells := 0, slots := 0, locals := 453 } s m args below meth c H locs 0 0 Q (F0 m 41 ls []) := by
          intro ls v41_0  hl
          refine x_aload_n hx hb hl 0 rfl dX5_readSum_41 rfl ?_
          refine x_get (j := 0) (v := .ref (h0 + 1)) hx hb hown hT hE hW cls_X5 (Or.inl (by decide)) (so_117 h0 g _) (by decide) rfl wq293 dX5_readSum_42 ?_
          refine lv_dup hx hb dX5_readSum_45 rfl ?_
          refine x_getN (j := 3) (v := .int (xJ (s_12 1 3))) hx hb hown hT hE hW cls_X8 (Or.inl (by decide)) (so_1 h0 g _) (by decide) rfl wn201 dX5_readSum_46 ?_
          refine x_rd hW (fun x10 ex10 rx10 => ?_)
          refine x_iconst hx hb dX5_readSum_49 ?_
          refine x_iadd hx hb dX5_readSum_50 ?_
          refine x_putN (j := 3) hx hb hown hT hE hW cls_X8 (by decide) (fun σ => so_1 h0 g σ) (by decide) (st_X8_3 h0 s_12 1 (x10 + 1)) (ln_X8_3 h0 _ _) wn201 rfl rfl rfl (by omega) dX5_readSum_51 (fun H locs s11 es11 hW => ?_)
          have q12 : IC s11 := by rw [es11]; exact IC_1 q12_0 (by omega)
          have q13 : s11 1 1 = s0 1 1 := (show s11 1 1 = s_12 1 1 from by rw [es11, xU_j _ _ (by decide)]).trans q12_1
          have hF14 := hF_12.put es11 (by omega)
          refine x_aload_n hx hb hl 0 rfl dX5_readSum_54 rfl ?_
          refine x_iload_n hx hb hl 1 rfl dX5_readSum_55 rfl ?_
          refine x_goi (x_runV (As := [.int (xJ q)]) hx hb hml hown hT hE hW hl.1 (Or.inl (by decide)) (so_117 h0 g _) rfl cf_X5_readTerm wq656 wq17 wq654 (c_X5_readTermL1 l D g T h0 s11 hW.2.1 q rq (by omega) q12) ⟨rfl, rfl, ⟨by decide, by decide⟩, ⟨by decide, by decide⟩⟩ rfl rfl (Nat.le_of_ble_eq_true rfl) dX5_readSum_56) hW (fun x15 s16 H locs rx15 hp17 hW => ?_)
          obtain ⟨fs16, hp17⟩ := hp17
          have hF18 := hF14.call fs16 (fun k h => by omega)
          have ghp17 := hp17.2
          refine x_if_ne (tgt := 64) hx hb rx15 dX5_readSum_59 (by decide) (fun c19 => ?_) (fun c19 => ?_)
          · skip
            refine x_aload_n hx hb hl 0 rfl dX5_readSum_64 rfl ?_
            refine x_get (j := 1) (v := .ref (h0 + 118)) hx hb hown hT hE hW cls_X5 (Or.inl (by decide)) (so_117 h0 g _) (by decide) rfl wq294 dX5_readSum_65 ?_
            refine x_iload_n hx hb hl 3 rfl dX5_readSum_68 rfl ?_
            refine x_iconst hx hb dX5_readSum_69 ?_
            refine x_goi (x_runVN (As := [.int (xJ x7), .int (xJ 0)]) hx hb hml hown hT hE hW hl.1 (Or.inl (by decide)) (so_118 h0 g _) rfl cf_X4_put wq672 wq21 wn670 (c_X4_put l D g T h0 s16 hW.2.1 x7 rx7 0 (by decide) hp17.1.1) ⟨rfl, rfl, ⟨by decide, by decide⟩, ⟨by decide, by decide⟩⟩ rfl rfl (Nat.le_of_ble_eq_true rfl) dX5_readSum_70) hW (fun x20 s21 H locs rx20 hp22 hW => ?_)
            obtain ⟨fs21, hp22⟩ := hp22
            have hF23 := hF18.call fs21 (fun k h => by omega)
            have q24 : s21 1 1 = s0 1 1 := (congrFun (fs21 _ (by omega)) _).trans (hp17.1.2.1.trans q13)
            have ghp22 := hp22.2
            refine lv_pop hx hb dX5_readSum_73 rfl ?_
            refine x_iinc (lv' := [(2, .int (xJ (i2_12 + 1))), (0, .ref (h0 + 117)), (1, .int (xJ q)), (3, .int (xJ x7))]) hx hb hl 2 rfl dX5_readSum_74 (by decide) rfl (fun ls hl => ?_)
            refine lv_goto (tgt := 12) hx hb dX5_readSum_77 (by decide) ?_
            exact ih12 (i2_12 + 1) s21 H locs ls (by omega) hF23 hp22.1.1 q24 (by omega) (by omega) (by omega) hW (lv_sub hl [1, 2, 0] rfl)
          refine x_iconst hx hb dX5_readSum_62 ?_
          rw [eQ]
          exact x_zret hx hb hr hlk hW (by omega) ⟨hF18, ⟨hp17.1.1, (hp17.1.2.1.trans q13), trivial⟩, by omega⟩ dX5_readSum_63
        refine x_icmp_eq (tgt := 41) hx hb rx7 (by decide) dX5_readSum_30 (by decide) (fun c25 => ?_) (fun c25 => ?_)
        · skip
          exact J41 ls (by omega)  (lv_sub hl [1, 2, 3, 0] rfl)
        refine x_iload_n hx hb hl 0 rfl dX5_readSum_33 rfl ?_
        refine x_bipush hx hb dX5_readSum_34 (by decide) ?_
        refine x_icmp_eq (tgt := 41) hx hb rx7 (by decide) dX5_readSum_36 (by decide) (fun c26 => ?_) (fun c26 => ?_)
        · skip
          exact J41 ls (by omega)  (lv_sub hl [1, 2, 3, 0] rfl)
        refine x_iconst hx hb dX5_readSum_39 ?_
        rw [eQ]
        exact x_zret hx hb hr hlk hW (by omega) ⟨hF_12, ⟨q12_0, q12_1, trivial⟩, by omega⟩ dX5_readSum_40
    exact L12 ((300 + 1 - 0 : Int).toNat + 1) 0 s2 H locs ls (by decide) hF4 hp3.1.1 (hp3.1.2.1.trans k1_1) (by omega) (by omega) (Nat.lt_succ_self _) hW (lv_sub hl [1, 2, 0] rfl)
  refine x_iconst hx hb dX5_readSum_8 ?_
  rw [eQ]
  exact x_zret hx hb hr hlk hW (by omega) ⟨hF4, ⟨hp3.1.1, (hp3.1.2.1.trans k1_1), trivial⟩, by omega⟩ dX5_readSum_9
set_option maxHeartbeats 4000000 in
set_option maxRecDepth 100000 in
theorem c_X5_readFactorL0 (l : Launch) (D : va_G) (g : xG) (T : Nat × Nat × Nat) (h0 : Nat) (s0 : xS) (hσ : xRR s0) (q : Int) (rq : xR q) (hq : q = 0) (p0 : IC s0) : Met l yX5_readFactor (xws yX5_readFactor cX5_readFactor 4 (some .boolean)) { frames := 21, cells := 0, slots := 0, locals := 476 } (xP [.ref (h0 + 117), .int (xJ q)] D g T h0 s0) (xQi D g h0 (fun r τ => xFr (fun k => k = 1 ∨ k = 118 ∨ k = 119 ∨ k = 120) s0 τ ∧ (((IC τ) ∧ (τ 1 1 = s0 1 1) ∧ True) ∧ (r = 0 ∨ r = 1)))) 0 0 (xA h0) := by
  refine x_met hσ (by decide) (Nat.le_of_ble_eq_true rfl) ?_
  intro p e s m args below meth c hx hb hr hml hown hT hlk hnm hE hW ls hl
  have hl : lv_has ls 4 [(0, .ref (h0 + 117)), (1, .int (xJ q))] := hl
  obtain ⟨Q, eQ⟩ : ∃ Q, Q = MQ below (xQi D g h0 (fun r τ => xFr (fun k => k = 1 ∨ k = 118 ∨ k = 119 ∨ k = 120) s0 τ ∧ (((IC τ) ∧ (τ 1 1 = s0 1 1) ∧ True) ∧ (r = 0 ∨ r = 1)))) args s 0 0 (xA h0) := ⟨_, rfl⟩
  rw [← eQ]
  generalize hHe : ([] : List Loc) = locs at hW ⊢
  obtain ⟨H, eH⟩ : ∃ H, H = s.heap := ⟨_, rfl⟩
  rw [← eH] at hW ⊢
  have hF : xFr (fun k => k = 1 ∨ k = 118 ∨ k = 119 ∨ k = 120) s0 s0 := xFr.rf
  have k1_1 : s0 1 1 = s0 1 1 := rfl
  refine x_aload_n hx hb hl 0 rfl dX5_readFactor_0 rfl ?_
  refine x_get (j := 0) (v := .ref (h0 + 1)) hx hb hown hT hE hW cls_X5 (Or.inl (by decide)) (so_117 h0 g _) (by decide) rfl wq293 dX5_readFactor_1 ?_
  refine x_goi (x_runVN (As := []) hx hb hml hown hT hE hW hl.1 (Or.inl (by decide)) (so_1 h0 g _) rfl cf_X8_isDigit wq664 wq19 wn662 (c_X8_isDigit l D g T h0 s0 hW.2.1 p0) ⟨rfl, rfl, ⟨by decide, by decide⟩, ⟨by decide, by decide⟩⟩ rfl rfl (Nat.le_of_ble_eq_true rfl) dX5_readFactor_4) hW (fun x1 s2 H locs rx1 hp3 hW => ?_)
  obtain ⟨es2, hp3⟩ := hp3
  subst es2
  have ghp3 := hp3
  refine x_if_eq (tgt := 15) hx hb rx1 dX5_readFactor_7 (by decide) (fun c4 => ?_) (fun c4 => ?_)
  · skip
    refine x_aload_n hx hb hl 0 rfl dX5_readFactor_15 rfl ?_
    refine x_get (j := 0) (v := .ref (h0 + 1)) hx hb hown hT hE hW cls_X5 (Or.inl (by decide)) (so_117 h0 g _) (by decide) rfl wq293 dX5_readFactor_16 ?_
    refine x_goi (x_runVN (As := []) hx hb hml hown hT hE hW hl.1 (Or.inl (by decide)) (so_1 h0 g _) rfl cf_X8_sign wq581 wq4 wn641 (c_X8_sign l D g T h0 s0 hW.2.1 p0) ⟨rfl, rfl, ⟨by decide, by decide⟩, ⟨by decide, by decide⟩⟩ rfl rfl (Nat.le_of_ble_eq_true rfl) dX5_readFactor_19) hW (fun x5 s6 H locs rx5 hp7 hW => ?_)
    obtain ⟨es6, hp7⟩ := hp7
    subst es6
    have ghp7 := hp7
    refine lv_istore_n (lv' := [(2, .int (xJ x5)), (0, .ref (h0 + 117)), (1, .int (xJ q))]) hx hb dX5_readFactor_22 rfl hl (by decide) rfl (fun ls hl => ?_)
    refine x_iload_n hx hb hl 0 rfl dX5_readFactor_23 rfl ?_
    refine x_bipush hx hb dX5_readFactor_24 (by decide) ?_
    refine x_icmp_ne (tgt := 92) hx hb rx5 (by decide) dX5_readFactor_26 (by decide) (fun c8 => ?_) (fun c8 => ?_)
    · skip
      refine x_iload_n hx hb hl 0 rfl dX5_readFactor_92 rfl ?_
      refine x_goi (x_runSN (As := [.int (xJ x5)]) hx hb hml hown hT hE hW hl.1 cf_X4_placeOfLetter wq676 wn675 (c_X4_placeOfLetter l D g T h0 s0 hW.2.1 x5 rx5) ⟨rfl, rfl, ⟨by decide, by decide⟩, ⟨by decide, by decide⟩⟩ rfl rfl (Nat.le_of_ble_eq_true rfl) dX5_readFactor_93) hW (fun x9 s10 H locs rx9 hp11 hW => ?_)
      obtain ⟨es10, hp11⟩ := hp11
      subst es10
      have ghp11 := hp11
      refine lv_istore_n (lv' := [(3, .int (xJ x9)), (2, .int (xJ x5)), (0, .ref (h0 + 117)), (1, .int (xJ q))]) hx hb dX5_readFactor_96 rfl hl (by decide) rfl (fun ls hl => ?_)
      refine x_iload_n hx hb hl 0 rfl dX5_readFactor_97 rfl ?_
      refine x_iconst hx hb dX5_readFactor_98 ?_
      refine x_icmp_ne (tgt := 118) hx hb rx9 (by decide) dX5_readFactor_99 (by decide) (fun c12 => ?_) (fun c12 => ?_)
      · skip
        refine x_aload_n hx hb hl 2 rfl dX5_readFactor_118 rfl ?_
        refine x_get (j := 0) (v := .ref (h0 + 1)) hx hb hown hT hE hW cls_X5 (Or.inl (by decide)) (so_117 h0 g _) (by decide) rfl wq293 dX5_readFactor_119 ?_
        refine lv_dup hx hb dX5_readFactor_122 rfl ?_
        refine x_getN (j := 3) (v := .int (xJ (s0 1 3))) hx hb hown hT hE hW cls_X8 (Or.inl (by decide)) (so_1 h0 g _) (by decide) rfl wn201 dX5_readFactor_123 ?_
        refine x_rd hW (fun x13 ex13 rx13 => ?_)
        refine x_iconst hx hb dX5_readFactor_126 ?_
        refine x_iadd hx hb dX5_readFactor_127 ?_
        refine x_putN (j := 3) hx hb hown hT hE hW cls_X8 (by decide) (fun σ => so_1 h0 g σ) (by decide) (st_X8_3 h0 s0 1 (x13 + 1)) (ln_X8_3 h0 _ _) wn201 rfl rfl rfl (by omega) dX5_readFactor_128 (fun H locs s14 es14 hW => ?_)
        have q15 : IC s14 := by rw [es14]; exact IC_1 p0 (by omega)
        have q16 : s14 1 1 = s0 1 1 := (show s14 1 1 = s0 1 1 from by rw [es14, xU_j _ _ (by decide)]).trans k1_1
        have hF17 := hF.put es14 (by omega)
        refine x_aload_n hx hb hl 2 rfl dX5_readFactor_131 rfl ?_
        refine x_get (j := 1) (v := .ref (h0 + 118)) hx hb hown hT hE hW cls_X5 (Or.inl (by decide)) (so_117 h0 g _) (by decide) rfl wq294 dX5_readFactor_132 ?_
        refine x_iconst hx hb dX5_readFactor_135 ?_
        refine x_iload_n hx hb hl 0 rfl dX5_readFactor_136 rfl ?_
        refine x_goi (x_runVN (As := [.int (xJ 2), .int (xJ x9)]) hx hb hml hown hT hE hW hl.1 (Or.inl (by decide)) (so_118 h0 g _) rfl cf_X4_put wq672 wq21 wn670 (c_X4_put l D g T h0 s14 hW.2.1 2 (by decide) x9 rx9 q15) ⟨rfl, rfl, ⟨by decide, by decide⟩, ⟨by decide, by decide⟩⟩ rfl rfl (Nat.le_of_ble_eq_true rfl) dX5_readFactor_137) hW (fun x18 s19 H locs rx18 hp20 hW => ?_)
        obtain ⟨fs19, hp20⟩ := hp20
        have hF21 := hF17.call fs19 (fun k h => by omega)
        have q22 : s19 1 1 = s0 1 1 := (congrFun (fs19 _ (by omega)) _).trans q16
        have ghp20 := hp20.2
        refine lv_pop hx hb dX5_readFactor_140 rfl ?_
        refine x_iconst hx hb dX5_readFactor_141 ?_
        rw [eQ]
        exact x_zret hx hb hr hlk hW (by omega) ⟨hF21, ⟨hp20.1.1, q22, trivial⟩, by omega⟩ dX5_readFactor_142
      refine x_aload_n hx hb hl 2 rfl dX5_readFactor_102 rfl ?_
      refine x_get (j := 0) (v := .ref (h0 + 1)) hx hb hown hT hE hW cls_X5 (Or.inl (by decide)) (so_117 h0 g _) (by decide) rfl wq293 dX5_readFactor_103 ?_
      refine x_iconst hx hb dX5_readFactor_106 ?_
      refine x_aload_n hx hb hl 2 rfl dX5_readFactor_107 rfl ?_
      refine x_get (j := 0) (v := .ref (h0 + 1)) hx hb hown hT hE hW cls_X5 (Or.inl (by decide)) (so_117 h0 g _) (by decide) rfl wq293 dX5_readFactor_108 ?_
      refine x_getN (j := 3) (v := .int (xJ (s0 1 3))) hx hb hown hT hE hW cls_X8 (Or.inl (by decide)) (so_1 h0 g _) (by decide) rfl wn201 dX5_readFactor_111 ?_
      refine x_rd hW (fun x23 ex23 rx23 => ?_)
      refine x_goi (x_runVN (As := [.int (xJ 1), .int (xJ x23)]) hx hb hml hown hT hE hW hl.1 (Or.inl (by decide)) (so_1 h0 g _) rfl cf_X8_fails wq588 wq5 wn645 (c_X8_fails l D g T h0 s0 hW.2.1 1 (by decide) x23 rx23 p0) ⟨rfl, rfl, ⟨by decide, by decide⟩, ⟨by decide, by decide⟩⟩ rfl rfl (Nat.le_of_ble_eq_true rfl) dX5_readFactor_114) hW (fun x24 s25 H locs rx24 hp26 hW => ?_)
      obtain ⟨fs25, hp26⟩ := hp26
      have hF27 := hF.call fs25 (fun k h => by omega)
      have ghp26 := hp26.2
      rw [eQ]
      exact x_zret hx hb hr hlk hW (by omega) ⟨hF27, ⟨hp26.1.1, (hp26.1.2.1.trans k1_1), trivial⟩, by omega⟩ dX5_readFactor_117
    refine x_iload_n hx hb hl 2 rfl dX5_readFactor_29 rfl ?_
    refine x_bipush hx hb dX5_readFactor_30 (by decide) ?_
    refine x_icmp_lt (tgt := 51) hx hb rq (by decide) dX5_readFactor_32 (by decide) (fun c28 => ?_) (fun c28 => False.elim (by omega))
    refine x_aload_n hx hb hl 1 rfl dX5_readFactor_51 rfl ?_
    refine x_get (j := 0) (v := .ref (h0 + 1)) hx hb hown hT hE hW cls_X5 (Or.inl (by decide)) (so_117 h0 g _) (by decide) rfl wq293 dX5_readFactor_52 ?_
    refine lv_dup hx hb dX5_readFactor_55 rfl ?_
    refine x_getN (j := 3) (v := .int (xJ (s0 1 3))) hx hb hown hT hE hW cls_X8 (Or.inl (by decide)) (so_1 h0 g _) (by decide) rfl wn201 dX5_readFactor_56 ?_
    refine x_rd hW (fun x29 ex29 rx29 => ?_)
    refine x_iconst hx hb dX5_readFactor_59 ?_
    refine x_iadd hx hb dX5_readFactor_60 ?_
    refine x_putN (j := 3) hx hb hown hT hE hW cls_X8 (by decide) (fun σ => so_1 h0 g σ) (by decide) (st_X8_3 h0 s0 1 (x29 + 1)) (ln_X8_3 h0 _ _) wn201 rfl rfl rfl (by omega) dX5_readFactor_61 (fun H locs s30 es30 hW => ?_)
    have q31 : IC s30 := by rw [es30]; exact IC_1 p0 (by omega)
    have q32 : s30 1 1 = s0 1 1 := (show s30 1 1 = s0 1 1 from by rw [es30, xU_j _ _ (by decide)]).trans k1_1
    have hF33 := hF.put es30 (by omega)
    refine x_aload_n hx hb hl 1 rfl dX5_readFactor_64 rfl ?_
    refine x_iload_n hx hb hl 2 rfl dX5_readFactor_65 rfl ?_
    refine x_iconst hx hb dX5_readFactor_66 ?_
    refine x_iadd hx hb dX5_readFactor_67 ?_
    refine x_goi (x_runV (As := [.int (xJ (q + 1))]) hx hb hml hown hT hE hW hl.1 (Or.inl (by decide)) (so_117 h0 g _) rfl cf_X5_readSum wq652 wq16 wq650 (c_X5_readSumL1 l D g T h0 s30 hW.2.1 (q + 1) (by omega) (by omega) q31) ⟨rfl, rfl, ⟨by decide, by decide⟩, ⟨by decide, by decide⟩⟩ rfl rfl (Nat.le_of_ble_eq_true rfl) dX5_readFactor_68) hW (fun x34 s35 H locs rx34 hp36 hW => ?_)
    obtain ⟨fs35, hp36⟩ := hp36
    have hF37 := hF33.call fs35 (fun k h => by omega)
    have ghp36 := hp36.2
    refine x_if_eq (tgt := 90) hx hb rx34 dX5_readFactor_71 (by decide) (fun c38 => ?_) (fun c38 => ?_)
    · skip
      refine x_iconst hx hb dX5_readFactor_90 ?_
      rw [eQ]
      exact x_zret hx hb hr hlk hW (by omega) ⟨hF37, ⟨hp36.1.1, (hp36.1.2.1.trans q32), trivial⟩, by omega⟩ dX5_readFactor_91
    refine x_aload_n hx hb hl 1 rfl dX5_readFactor_74 rfl ?_
    refine x_get (j := 0) (v := .ref (h0 + 1)) hx hb hown hT hE hW cls_X5 (Or.inl (by decide)) (so_117 h0 g _) (by decide) rfl wq293 dX5_readFactor_75 ?_
    refine x_bipush hx hb dX5_readFactor_78 (by decide) ?_
    refine x_goi (x_runVN (As := [.int (xJ 93)]) hx hb hml hown hT hE hW hl.1 (Or.inl (by decide)) (so_1 h0 g _) rfl cf_X8_passes wq598 wq6 wn674 (c_X8_passes l D g T h0 s35 hW.2.1 93 (by decide) hp36.1.1) ⟨rfl, rfl, ⟨by decide, by decide⟩, ⟨by decide, by decide⟩⟩ rfl rfl (Nat.le_of_ble_eq_true rfl) dX5_readFactor_80) hW (fun x39 s40 H locs rx39 hp41 hW => ?_)
    obtain ⟨fs40, hp41⟩ := hp41
    have hF42 := hF37.call fs40 (fun k h => by omega)
    have ghp41 := hp41.2
    refine x_if_eq (tgt := 90) hx hb rx39 dX5_readFactor_83 (by decide) (fun c43 => ?_) (fun c43 => ?_)
    · skip
      refine x_iconst hx hb dX5_readFactor_90 ?_
      rw [eQ]
      exact x_zret hx hb hr hlk hW (by omega) ⟨hF42, ⟨hp41.1.1, (hp41.1.2.1.trans (hp36.1.2.1.trans q32)), trivial⟩, by omega⟩ dX5_readFactor_91
    refine x_iconst hx hb dX5_readFactor_86 ?_
    refine lv_goto (tgt := 91) hx hb dX5_readFactor_87 (by decide) ?_
    rw [eQ]
    exact x_zret hx hb hr hlk hW (by omega) ⟨hF42, ⟨hp41.1.1, (hp41.1.2.1.trans (hp36.1.2.1.trans q32)), trivial⟩, by omega⟩ dX5_readFactor_91
  refine x_aload_n hx hb hl 0 rfl dX5_readFactor_10 rfl ?_
  refine x_goi (x_runV (As := []) hx hb hml hown hT hE hW hl.1 (Or.inl (by decide)) (so_117 h0 g _) rfl cf_X5_readNumber wq668 wq20 wq666 (c_X5_readNumber l D g T h0 s0 hW.2.1 p0) ⟨rfl, rfl, ⟨by decide, by decide⟩, ⟨by decide, by decide⟩⟩ rfl rfl (Nat.le_of_ble_eq_true rfl) dX5_readFactor_11) hW (fun x44 s45 H locs rx44 hp46 hW => ?_)
  obtain ⟨fs45, hp46⟩ := hp46
  have hF47 := hF.call fs45 (fun k h => by omega)
  have ghp46 := hp46.2
  rw [eQ]
  exact x_zret hx hb hr hlk hW (by omega) ⟨hF47, ⟨hp46.1.1, (hp46.1.2.1.trans k1_1), trivial⟩, by omega⟩ dX5_readFactor_14
set_option maxHeartbeats 4000000 in
set_option maxRecDepth 100000 in
theorem c_X5_readTermL0 (l : Launch) (D : va_G) (g : xG) (T : Nat × Nat × Nat) (h0 : Nat) (s0 : xS) (hσ : xRR s0) (q : Int) (rq : xR q) (hq : q = 0) (p0 : IC s0) : Met l yX5_readTerm (xws yX5_readTerm cX5_readTerm 4 (some .boolean)) { frames := 22, cells := 0, slots := 0, locals := 499 } (xP [.ref (h0 + 117), .int (xJ q)] D g T h0 s0) (xQi D g h0 (fun r τ => xFr (fun k => k = 1 ∨ k = 118 ∨ k = 119 ∨ k = 120) s0 τ ∧ (((IC τ) ∧ (τ 1 1 = s0 1 1) ∧ True) ∧ (r = 0 ∨ r = 1)))) 0 0 (xA h0) := by
  refine x_met hσ (by decide) (Nat.le_of_ble_eq_true rfl) ?_
  intro p e s m args below meth c hx hb hr hml hown hT hlk hnm hE hW ls hl
  have hl : lv_has ls 4 [(0, .ref (h0 + 117)), (1, .int (xJ q))] := hl
  obtain ⟨Q, eQ⟩ : ∃ Q, Q = MQ below (xQi D g h0 (fun r τ => xFr (fun k => k = 1 ∨ k = 118 ∨ k = 119 ∨ k = 120) s0 τ ∧ (((IC τ) ∧ (τ 1 1 = s0 1 1) ∧ True) ∧ (r = 0 ∨ r = 1)))) args s 0 0 (xA h0) := ⟨_, rfl⟩
  rw [← eQ]
  generalize hHe : ([] : List Loc) = locs at hW ⊢
  obtain ⟨H, eH⟩ : ∃ H, H = s.heap := ⟨_, rfl⟩
  rw [← eH] at hW ⊢
  have hF : xFr (fun k => k = 1 ∨ k = 118 ∨ k = 119 ∨ k = 120) s0 s0 := xFr.rf
  have k1_1 : s0 1 1 = s0 1 1 := rfl
  refine x_aload_n hx hb hl 0 rfl dX5_readTerm_0 rfl ?_
  refine x_iload_n hx hb hl 1 rfl dX5_readTerm_1 rfl ?_
  refine x_goi (x_runV (As := [.int (xJ q)]) hx hb hml hown hT hE hW hl.1 (Or.inl (by decide)) (so_117 h0 g _) rfl cf_X5_readFactor wq660 wq18 wq658 (c_X5_readFactorL0 l D g T h0 s0 hW.2.1 q rq (by omega) p0) ⟨rfl, rfl, ⟨by decide, by decide⟩, ⟨by decide, by decide⟩⟩ rfl rfl (Nat.le_of_ble_eq_true rfl) dX5_readTerm_2) hW (fun x1 s2 H locs rx1 hp3 hW => ?_)
  obtain ⟨fs2, hp3⟩ := hp3
  have hF4 := hF.call fs2 (fun k h => by omega)
  have ghp3 := hp3.2
  refine x_if_ne (tgt := 10) hx hb rx1 dX5_readTerm_5 (by decide) (fun c5 => ?_) (fun c5 => ?_)
  · skip
    refine x_iconst hx hb dX5_readTerm_10 ?_
    refine lv_istore_n (lv' := [(2, .int (xJ 0)), (0, .ref (h0 + 117)), (1, .int (xJ q))]) hx hb dX5_readTerm_11 rfl hl (by decide) rfl (fun ls hl => ?_)
    have L12 : ∀ (fu : Nat) (i2_12 : Int) (s_12 : xS) (H : Heap) (locs : List Loc) (ls : Array Slot), (xR i2_12) → (xFr (fun k => k = 1 ∨ k = 118 ∨ k = 119 ∨ k = 120) s0 s_12) → (IC s_12) → (s_12 1 1 = s0 1 1) → (0 ≤ i2_12) → (i2_12 ≤ 300) → (300 + 1 - i2_12).toNat < fu → xW D g h0 s H locs s_12 → lv_has ls 4 [(0, .ref (h0 + 117)), (1, .int (xJ q)), (2, .int (xJ i2_12))] → W p l e { frames := 22, cells := 0, slots := 0, locals := 499 } s m args below meth c H locs 0 0 Q (F0 m 12 ls []) := by
      intro fu
      induction fu with
      | zero => intro i2_12 s_12 H locs ls ri2_12 hF_12 q12_0 q12_1 v12_0 v12_1 hm; exact absurd hm (Nat.not_lt_zero _)
      | succ fu ih12 =>
        intro i2_12 s_12 H locs ls ri2_12 hF_12 q12_0 q12_1 v12_0 v12_1 hm hW hl
        refine x_iload_n hx hb hl 2 rfl dX5_readTerm_12 rfl ?_
        refine x_sipush hx hb dX5_readTerm_13 (by decide) ?_
        refine x_icmp_ge (tgt := 86) hx hb ri2_12 (by decide) dX5_readTerm_16 (by decide) (fun c6 => ?_) (fun c6 => ?_)
        · skip
          refine x_iconst hx hb dX5_readTerm_86 ?_
          rw [eQ]
          exact x_zret hx hb hr hlk hW (by omega) ⟨hF_12, ⟨q12_0, q12_1, trivial⟩, by omega⟩ dX5_readTerm_87
        refine x_aload_n hx hb hl 0 rfl dX5_readTerm_19 rfl ?_
        refine x_get (j := 0) (v := .ref (h0 + 1)) hx hb hown hT hE hW cls_X5 (Or.inl (by decide)) (so_117 h0 g _) (by decide) rfl wq293 dX5_readTerm_20 ?_
        refine x_goi (x_runVN (As := []) hx hb hml hown hT hE hW hl.1 (Or.inl (by decide)) (so_1 h0 g _) rfl cf_X8_sign wq581 wq4 wn641 (c_X8_sign l D g T h0 s_12 hW.2.1 q12_0) ⟨rfl, rfl, ⟨by decide, by decide⟩, ⟨by decide, by decide⟩⟩ rfl rfl (Nat.le_of_ble_eq_true rfl) dX5_readTerm_23) hW (fun x7 s8 H locs rx7 hp9 hW => ?_)
        obtain ⟨es8, hp9⟩ := hp9
        subst es8
        have ghp9 := hp9
        refine lv_istore_n (lv' := [(3, .int (xJ x7)), (0, .ref (h0 + 117)), (1, .int (xJ q)), (2, .int (xJ i2_12))]) hx hb dX5_readTerm_26 rfl hl (by decide) rfl (fun ls hl => ?_)
        refine x_iload_n hx hb hl 0 rfl dX5_readTerm_27 rfl ?_
        refine x_bipush hx hb dX5_readTerm_28 (by decide) ?_
        have J47 : ∀ (ls : Array Slot), (x7 ≠ -1) → lv_has ls 4 [(0, .ref (h0 + 117)), (1, .int (xJ q)), (2, .int (xJ i2_12)), (3, .int (xJ x7))] → W p l e { frames := 22, cells := 0, slots := 0, locals := 499 } s m args below meth c H locs 0 0 Q (F0 m 47 ls []) := by
          intro ls v47_0  hl
          refine x_aload_n hx hb hl 0 rfl dX5_readTerm_47 rfl ?_
          refine x_get (j := 0) (v := .ref (h0 + 1)) hx hb hown hT hE hW cls_X5 (Or.inl (by decide)) (so_117 h0 g _) (by decide) rfl wq293 dX5_readTerm_48 ?_
          refine lv_dup hx hb dX5_readTerm_51 rfl ?_
          refine x_getN (j := 3) (v := .int (xJ (s_12 1 3))) hx hb hown hT hE hW cls_X8 (Or.inl (by decide)) (so_1 h0 g _) (by decide) rfl wn201 dX5_readTerm_52 ?_
          refine x_rd hW (fun x10 ex10 rx10 => ?_)
          refine x_iconst hx hb dX5_readTerm_55 ?_
          refine x_iadd hx hb dX5_readTerm_56 ?_
          refine x_putN (j := 3) hx hb hown hT hE hW cls_X8 (by decide) (fun σ => so_1 h0 g σ) (by decide) (st_X8_3 h0 s_12 1 (x10 + 1)) (ln_X8_3 h0 _ _) wn201 rfl rfl rfl (by omega) dX5_readTerm_57 (fun H locs s11 es11 hW => ?_)
          have q12 : IC s11 := by rw [es11]; exact IC_1 q12_0 (by omega)
          have q13 : s11 1 1 = s0 1 1 := (show s11 1 1 = s_12 1 1 from by rw [es11, xU_j _ _ (by decide)]).trans q12_1
          have hF14 := hF_12.put es11 (by omega)
          refine x_aload_n hx hb hl 0 rfl dX5_readTerm_60 rfl ?_
          refine x_iload_n hx hb hl 1 rfl dX5_readTerm_61 rfl ?_
          refine x_goi (x_runV (As := [.int (xJ q)]) hx hb hml hown hT hE hW hl.1 (Or.inl (by decide)) (so_117 h0 g _) rfl cf_X5_readFactor wq660 wq18 wq658 (c_X5_readFactorL0 l D g T h0 s11 hW.2.1 q rq (by omega) q12) ⟨rfl, rfl, ⟨by decide, by decide⟩, ⟨by decide, by decide⟩⟩ rfl rfl (Nat.le_of_ble_eq_true rfl) dX5_readTerm_62) hW (fun x15 s16 H locs rx15 hp17 hW => ?_)
          obtain ⟨fs16, hp17⟩ := hp17
          have hF18 := hF14.call fs16 (fun k h => by omega)
          have ghp17 := hp17.2
          refine x_if_ne (tgt := 70) hx hb rx15 dX5_readTerm_65 (by decide) (fun c19 => ?_) (fun c19 => ?_)
          · skip
            refine x_aload_n hx hb hl 0 rfl dX5_readTerm_70 rfl ?_
            refine x_get (j := 1) (v := .ref (h0 + 118)) hx hb hown hT hE hW cls_X5 (Or.inl (by decide)) (so_117 h0 g _) (by decide) rfl wq294 dX5_readTerm_71 ?_
            refine x_iload_n hx hb hl 3 rfl dX5_readTerm_74 rfl ?_
            refine x_iconst hx hb dX5_readTerm_75 ?_
            refine x_goi (x_runVN (As := [.int (xJ x7), .int (xJ 0)]) hx hb hml hown hT hE hW hl.1 (Or.inl (by decide)) (so_118 h0 g _) rfl cf_X4_put wq672 wq21 wn670 (c_X4_put l D g T h0 s16 hW.2.1 x7 rx7 0 (by decide) hp17.1.1) ⟨rfl, rfl, ⟨by decide, by decide⟩, ⟨by decide, by decide⟩⟩ rfl rfl (Nat.le_of_ble_eq_true rfl) dX5_readTerm_76) hW (fun x20 s21 H locs rx20 hp22 hW => ?_)
            obtain ⟨fs21, hp22⟩ := hp22
            have hF23 := hF18.call fs21 (fun k h => by omega)
            have q24 : s21 1 1 = s0 1 1 := (congrFun (fs21 _ (by omega)) _).trans (hp17.1.2.1.trans q13)
            have ghp22 := hp22.2
            refine lv_pop hx hb dX5_readTerm_79 rfl ?_
            refine x_iinc (lv' := [(2, .int (xJ (i2_12 + 1))), (0, .ref (h0 + 117)), (1, .int (xJ q)), (3, .int (xJ x7))]) hx hb hl 2 rfl dX5_readTerm_80 (by decide) rfl (fun ls hl => ?_)
            refine lv_goto (tgt := 12) hx hb dX5_readTerm_83 (by decide) ?_
            exact ih12 (i2_12 + 1) s21 H locs ls (by omega) hF23 hp22.1.1 q24 (by omega) (by omega) (by omega) hW (lv_sub hl [1, 2, 0] rfl)
          refine x_iconst hx hb dX5_readTerm_68 ?_
          rw [eQ]
          exact x_zret hx hb hr hlk hW (by omega) ⟨hF18, ⟨hp17.1.1, (hp17.1.2.1.trans q13), trivial⟩, by omega⟩ dX5_readTerm_69
        refine x_icmp_eq (tgt := 47) hx hb rx7 (by decide) dX5_readTerm_30 (by decide) (fun c25 => ?_) (fun c25 => ?_)
        · skip
          exact J47 ls (by omega)  (lv_sub hl [1, 2, 3, 0] rfl)
        refine x_iload_n hx hb hl 0 rfl dX5_readTerm_33 rfl ?_
        refine x_bipush hx hb dX5_readTerm_34 (by decide) ?_
        refine x_icmp_eq (tgt := 47) hx hb rx7 (by decide) dX5_readTerm_36 (by decide) (fun c26 => ?_) (fun c26 => ?_)
        · skip
          exact J47 ls (by omega)  (lv_sub hl [1, 2, 3, 0] rfl)
        refine x_iload_n hx hb hl 0 rfl dX5_readTerm_39 rfl ?_
        refine x_bipush hx hb dX5_readTerm_40 (by decide) ?_
        refine x_icmp_eq (tgt := 47) hx hb rx7 (by decide) dX5_readTerm_42 (by decide) (fun c27 => ?_) (fun c27 => ?_)
        · skip
          exact J47 ls (by omega)  (lv_sub hl [1, 2, 3, 0] rfl)
        refine x_iconst hx hb dX5_readTerm_45 ?_
        rw [eQ]
        exact x_zret hx hb hr hlk hW (by omega) ⟨hF_12, ⟨q12_0, q12_1, trivial⟩, by omega⟩ dX5_readTerm_46
    exact L12 ((300 + 1 - 0 : Int).toNat + 1) 0 s2 H locs ls (by decide) hF4 hp3.1.1 (hp3.1.2.1.trans k1_1) (by omega) (by omega) (Nat.lt_succ_self _) hW (lv_sub hl [1, 2, 0] rfl)
  refine x_iconst hx hb dX5_readTerm_8 ?_
  rw [eQ]
  exact x_zret hx hb hr hlk hW (by omega) ⟨hF4, ⟨hp3.1.1, (hp3.1.2.1.trans k1_1), trivial⟩, by omega⟩ dX5_readTerm_9
set_option maxHeartbeats 4000000 in
set_option maxRecDepth 100000 in
theorem c_X5_readSumL0 (l : Launch) (D : va_G) (g : xG) (T : Nat × Nat × Nat) (h0 : Nat) (s0 : xS) (hσ : xRR s0) (q : Int) (rq : xR q) (hq : q = 0) (p0 : IC s0) : Met l yX5_readSum (xws yX5_readSum cX5_readSum 4 (some .boolean)) { frames := 23, cells := 0, slots := 0, locals := 522 } (xP [.ref (h0 + 117), .int (xJ q)] D g T h0 s0) (xQi D g h0 (fun r τ => xFr (fun k => k = 1 ∨ k = 118 ∨ k = 119 ∨ k = 120) s0 τ ∧ (((IC τ) ∧ (τ 1 1 = s0 1 1) ∧ True) ∧ (r = 0 ∨ r = 1)))) 0 0 (xA h0) := by
  refine x_met hσ (by decide) (Nat.le_of_ble_eq_true rfl) ?_
  intro p e s m args below meth c hx hb hr hml hown hT hlk hnm hE hW ls hl
  have hl : lv_has ls 4 [(0, .ref (h0 + 117)), (1, .int (xJ q))] := hl
  obtain ⟨Q, eQ⟩ : ∃ Q, Q = MQ below (xQi D g h0 (fun r τ => xFr (fun k => k = 1 ∨ k = 118 ∨ k = 119 ∨ k = 120) s0 τ ∧ (((IC τ) ∧ (τ 1 1 = s0 1 1) ∧ True) ∧ (r = 0 ∨ r = 1)))) args s 0 0 (xA h0) := ⟨_, rfl⟩
  rw [← eQ]
  generalize hHe : ([] : List Loc) = locs at hW ⊢
  obtain ⟨H, eH⟩ : ∃ H, H = s.heap := ⟨_, rfl⟩
  rw [← eH] at hW ⊢
  have hF : xFr (fun k => k = 1 ∨ k = 118 ∨ k = 119 ∨ k = 120) s0 s0 := xFr.rf
  have k1_1 : s0 1 1 = s0 1 1 := rfl
  refine x_aload_n hx hb hl 0 rfl dX5_readSum_0 rfl ?_
  refine x_iload_n hx hb hl 1 rfl dX5_readSum_1 rfl ?_
  refine x_goi (x_runV (As := [.int (xJ q)]) hx hb hml hown hT hE hW hl.1 (Or.inl (by decide)) (so_117 h0 g _) rfl cf_X5_readTerm wq656 wq17 wq654 (c_X5_readTermL0 l D g T h0 s0 hW.2.1 q rq (by omega) p0) ⟨rfl, rfl, ⟨by decide, by decide⟩, ⟨by decide, by decide⟩⟩ rfl rfl (Nat.le_of_ble_eq_true rfl) dX5_readSum_2) hW (fun x1 s2 H locs rx1 hp3 hW => ?_)
  obtain ⟨fs2, hp3⟩ := hp3
  have hF4 := hF.call fs2 (fun k h => by omega)
  have ghp3 := hp3.2
  refine x_if_ne (tgt := 10) hx hb rx1 dX5_readSum_5 (by decide) (fun c5 => ?_) (fun c5 => ?_)
  · skip
    refine x_iconst hx hb dX5_readSum_10 ?_
    refine lv_istore_n (lv' := [(2, .int (xJ 0)), (0, .ref (h0 + 117)), (1, .int (xJ q))]) hx hb dX5_readSum_11 rfl hl (by decide) rfl (fun ls hl => ?_)
    have L12 : ∀ (fu : Nat) (i2_12 : Int) (s_12 : xS) (H : Heap) (locs : List Loc) (ls : Array Slot), (xR i2_12) → (xFr (fun k => k = 1 ∨ k = 118 ∨ k = 119 ∨ k = 120) s0 s_12) → (IC s_12) → (s_12 1 1 = s0 1 1) → (0 ≤ i2_12) → (i2_12 ≤ 300) → (300 + 1 - i2_12).toNat < fu → xW D g h0 s H locs s_12 → lv_has ls 4 [(0, .ref (h0 + 117)), (1, .int (xJ q)), (2, .int (xJ i2_12))] → W p l e { frames := 23, cells := 0, slots := 0, locals := 522 } s m args below meth c H locs 0 0 Q (F0 m 12 ls []) := by
      intro fu
      induction fu with
      | zero => intro i2_12 s_12 H locs ls ri2_12 hF_12 q12_0 q12_1 v12_0 v12_1 hm; exact absurd hm (Nat.not_lt_zero _)
      | succ fu ih12 =>
        intro i2_12 s_12 H locs ls ri2_12 hF_12 q12_0 q12_1 v12_0 v12_1 hm hW hl
        refine x_iload_n hx hb hl 2 rfl dX5_readSum_12 rfl ?_
        refine x_sipush hx hb dX5_readSum_13 (by decide) ?_
        refine x_icmp_ge (tgt := 80) hx hb ri2_12 (by decide) dX5_readSum_16 (by decide) (fun c6 => ?_) (fun c6 => ?_)
        · skip
          refine x_iconst hx hb dX5_readSum_80 ?_
          rw [eQ]
          exact x_zret hx hb hr hlk hW (by omega) ⟨hF_12, ⟨q12_0, q12_1, trivial⟩, by omega⟩ dX5_readSum_81
        refine x_aload_n hx hb hl 0 rfl dX5_readSum_19 rfl ?_
        refine x_get (j := 0) (v := .ref (h0 + 1)) hx hb hown hT hE hW cls_X5 (Or.inl (by decide)) (so_117 h0 g _) (by decide) rfl wq293 dX5_readSum_20 ?_
        refine x_goi (x_runVN (As := []) hx hb hml hown hT hE hW hl.1 (Or.inl (by decide)) (so_1 h0 g _) rfl cf_X8_sign wq581 wq4 wn641 (c_X8_sign l D g T h0 s_12 hW.2.1 q12_0) ⟨rfl, rfl, ⟨by decide, by decide⟩, ⟨by decide, by decide⟩⟩ rfl rfl (Nat.le_of_ble_eq_true rfl) dX5_readSum_23) hW (fun x7 s8 H locs rx7 hp9 hW => ?_)
        obtain ⟨es8, hp9⟩ := hp9
        subst es8
        have ghp9 := hp9
        refine lv_istore_n (lv' := [(3, .int (xJ x7)), (0, .ref (h0 + 117)), (1, .int (xJ q)), (2, .int (xJ i2_12))]) hx hb dX5_readSum_26 rfl hl (by decide) rfl (fun ls hl => ?_)
        refine x_iload_n hx hb hl 0 rfl dX5_readSum_27 rfl ?_
        refine x_bipush hx hb dX5_readSum_28 (by decide) ?_
        have J41 : ∀ (ls : Array Slot), (x7 ≠ -1) → lv_has ls 4 [(0, .ref (h0 + 117)), (1, .int (xJ q)), (2, .int (xJ i2_12)), (3, .int (xJ x7))] → W p l e { frames := 23, cells := 0, slots := 0, locals := 522 } s m args below meth c H locs 0 0 Q (F0 m 41 ls []) := by
          intro ls v41_0  hl
          refine x_aload_n hx hb hl 0 rfl dX5_readSum_41 rfl ?_
          refine x_get (j := 0) (v := .ref (h0 + 1)) hx hb hown hT hE hW cls_X5 (Or.inl (by decide)) (so_117 h0 g _) (by decide) rfl wq293 dX5_readSum_42 ?_
          refine lv_dup hx hb dX5_readSum_45 rfl ?_
          refine x_getN (j := 3) (v := .int (xJ (s_12 1 3))) hx hb hown hT hE hW cls_X8 (Or.inl (by decide)) (so_1 h0 g _) (by decide) rfl wn201 dX5_readSum_46 ?_
          refine x_rd hW (fun x10 ex10 rx10 => ?_)
          refine x_iconst hx hb dX5_readSum_49 ?_
          refine x_iadd hx hb dX5_readSum_50 ?_
          refine x_putN (j := 3) hx hb hown hT hE hW cls_X8 (by decide) (fun σ => so_1 h0 g σ) (by decide) (st_X8_3 h0 s_12 1 (x10 + 1)) (ln_X8_3 h0 _ _) wn201 rfl rfl rfl (by omega) dX5_readSum_51 (fun H locs s11 es11 hW => ?_)
          have q12 : IC s11 := by rw [es11]; exact IC_1 q12_0 (by omega)
          have q13 : s11 1 1 = s0 1 1 := (show s11 1 1 = s_12 1 1 from by rw [es11, xU_j _ _ (by decide)]).trans q12_1
          have hF14 := hF_12.put es11 (by omega)
          refine x_aload_n hx hb hl 0 rfl dX5_readSum_54 rfl ?_
          refine x_iload_n hx hb hl 1 rfl dX5_readSum_55 rfl ?_
          refine x_goi (x_runV (As := [.int (xJ q)]) hx hb hml hown hT hE hW hl.1 (Or.inl (by decide)) (so_117 h0 g _) rfl cf_X5_readTerm wq656 wq17 wq654 (c_X5_readTermL0 l D g T h0 s11 hW.2.1 q rq (by omega) q12) ⟨rfl, rfl, ⟨by decide, by decide⟩, ⟨by decide, by decide⟩⟩ rfl rfl (Nat.le_of_ble_eq_true rfl) dX5_readSum_56) hW (fun x15 s16 H locs rx15 hp17 hW => ?_)
          obtain ⟨fs16, hp17⟩ := hp17
          have hF18 := hF14.call fs16 (fun k h => by omega)
          have ghp17 := hp17.2
          refine x_if_ne (tgt := 64) hx hb rx15 dX5_readSum_59 (by decide) (fun c19 => ?_) (fun c19 => ?_)
          · skip
            refine x_aload_n hx hb hl 0 rfl dX5_readSum_64 rfl ?_
            refine x_get (j := 1) (v := .ref (h0 + 118)) hx hb hown hT hE hW cls_X5 (Or.inl (by decide)) (so_117 h0 g _) (by decide) rfl wq294 dX5_readSum_65 ?_
            refine x_iload_n hx hb hl 3 rfl dX5_readSum_68 rfl ?_
            refine x_iconst hx hb dX5_readSum_69 ?_
            refine x_goi (x_runVN (As := [.int (xJ x7), .int (xJ 0)]) hx hb hml hown hT hE hW hl.1 (Or.inl (by decide)) (so_118 h0 g _) rfl cf_X4_put wq672 wq21 wn670 (c_X4_put l D g T h0 s16 hW.2.1 x7 rx7 0 (by decide) hp17.1.1) ⟨rfl, rfl, ⟨by decide, by decide⟩, ⟨by decide, by decide⟩⟩ rfl rfl (Nat.le_of_ble_eq_true rfl) dX5_readSum_70) hW (fun x20 s21 H locs rx20 hp22 hW => ?_)
            obtain ⟨fs21, hp22⟩ := hp22
            have hF23 := hF18.call fs21 (fun k h => by omega)
            have q24 : s21 1 1 = s0 1 1 := (congrFun (fs21 _ (by omega)) _).trans (hp17.1.2.1.trans q13)
            have ghp22 := hp22.2
            refine lv_pop hx hb dX5_readSum_73 rfl ?_
            refine x_iinc (lv' := [(2, .int (xJ (i2_12 + 1))), (0, .ref (h0 + 117)), (1, .int (xJ q)), (3, .int (xJ x7))]) hx hb hl 2 rfl dX5_readSum_74 (by decide) rfl (fun ls hl => ?_)
            refine lv_goto (tgt := 12) hx hb dX5_readSum_77 (by decide) ?_
            exact ih12 (i2_12 + 1) s21 H locs ls (by omega) hF23 hp22.1.1 q24 (by omega) (by omega) (by omega) hW (lv_sub hl [1, 2, 0] rfl)
          refine x_iconst hx hb dX5_readSum_62 ?_
          rw [eQ]
          exact x_zret hx hb hr hlk hW (by omega) ⟨hF18, ⟨hp17.1.1, (hp17.1.2.1.trans q13), trivial⟩, by omega⟩ dX5_readSum_63
        refine x_icmp_eq (tgt := 41) hx hb rx7 (by decide) dX5_readSum_30 (by decide) (fun c25 => ?_) (fun c25 => ?_)
        · skip
          exact J41 ls (by omega)  (lv_sub hl [1, 2, 3, 0] rfl)
        refine x_iload_n hx hb hl 0 rfl dX5_readSum_33 rfl ?_
        refine x_bipush hx hb dX5_readSum_34 (by decide) ?_
        refine x_icmp_eq (tgt := 41) hx hb rx7 (by decide) dX5_readSum_36 (by decide) (fun c26 => ?_) (fun c26 => ?_)
        · skip
          exact J41 ls (by omega)  (lv_sub hl [1, 2, 3, 0] rfl)
        refine x_iconst hx hb dX5_readSum_39 ?_
        rw [eQ]
        exact x_zret hx hb hr hlk hW (by omega) ⟨hF_12, ⟨q12_0, q12_1, trivial⟩, by omega⟩ dX5_readSum_40
    exact L12 ((300 + 1 - 0 : Int).toNat + 1) 0 s2 H locs ls (by decide) hF4 hp3.1.1 (hp3.1.2.1.trans k1_1) (by omega) (by omega) (Nat.lt_succ_self _) hW (lv_sub hl [1, 2, 0] rfl)
  refine x_iconst hx hb dX5_readSum_8 ?_
  rw [eQ]
  exact x_zret hx hb hr hlk hW (by omega) ⟨hF4, ⟨hp3.1.1, (hp3.1.2.1.trans k1_1), trivial⟩, by omega⟩ dX5_readSum_9
set_option maxHeartbeats 4000000 in
set_option maxRecDepth 100000 in
theorem c_X5_readPieceL6 (l : Launch) (D : va_G) (g : xG) (T : Nat × Nat × Nat) (h0 : Nat) (s0 : xS) (hσ : xRR s0) (q : Int) (rq : xR q) (hq : q = 6) (p0 : IC s0) : Met l yX5_readPiece (xws yX5_readPiece cX5_readPiece 5 (some .boolean)) { frames := 6, cells := 0, slots := 0, locals := 131 } (xP [.ref (h0 + 117), .int (xJ q)] D g T h0 s0) (xQi D g h0 (fun r τ => xFr (fun k => k = 1 ∨ k = 118 ∨ k = 119 ∨ k = 120) s0 τ ∧ (((IC τ) ∧ (τ 1 1 = s0 1 1) ∧ True) ∧ (r = 0 ∨ r = 1)))) 0 0 (xA h0) := by
  refine x_met hσ (by decide) (Nat.le_of_ble_eq_true rfl) ?_
  intro p e s m args below meth c hx hb hr hml hown hT hlk hnm hE hW ls hl
  have hl : lv_has ls 5 [(0, .ref (h0 + 117)), (1, .int (xJ q))] := hl
  obtain ⟨Q, eQ⟩ : ∃ Q, Q = MQ below (xQi D g h0 (fun r τ => xFr (fun k => k = 1 ∨ k = 118 ∨ k = 119 ∨ k = 120) s0 τ ∧ (((IC τ) ∧ (τ 1 1 = s0 1 1) ∧ True) ∧ (r = 0 ∨ r = 1)))) args s 0 0 (xA h0) := ⟨_, rfl⟩
  rw [← eQ]
  generalize hHe : ([] : List Loc) = locs at hW ⊢
  obtain ⟨H, eH⟩ : ∃ H, H = s.heap := ⟨_, rfl⟩
  rw [← eH] at hW ⊢
  have hF : xFr (fun k => k = 1 ∨ k = 118 ∨ k = 119 ∨ k = 120) s0 s0 := xFr.rf
  have k1_1 : s0 1 1 = s0 1 1 := rfl
  refine x_aload_n hx hb hl 0 rfl dX5_readPiece_0 rfl ?_
  refine x_get (j := 0) (v := .ref (h0 + 1)) hx hb hown hT hE hW cls_X5 (Or.inl (by decide)) (so_117 h0 g _) (by decide) rfl wq293 dX5_readPiece_1 ?_
  refine x_goi (x_runVN (As := []) hx hb hml hown hT hE hW hl.1 (Or.inl (by decide)) (so_1 h0 g _) rfl cf_X8_sign wq581 wq4 wn641 (c_X8_sign l D g T h0 s0 hW.2.1 p0) ⟨rfl, rfl, ⟨by decide, by decide⟩, ⟨by decide, by decide⟩⟩ rfl rfl (Nat.le_of_ble_eq_true rfl) dX5_readPiece_4) hW (fun x1 s2 H locs rx1 hp3 hW => ?_)
  obtain ⟨es2, hp3⟩ := hp3
  subst es2
  have ghp3 := hp3
  refine lv_istore_n (lv' := [(2, .int (xJ x1)), (0, .ref (h0 + 117)), (1, .int (xJ q))]) hx hb dX5_readPiece_7 rfl hl (by decide) rfl (fun ls hl => ?_)
  refine x_iload_n hx hb hl 0 rfl dX5_readPiece_8 rfl ?_
  refine x_bipush hx hb dX5_readPiece_9 (by decide) ?_
  have J20 : ∀ (ls : Array Slot), (0 ≤ s0 1 3 ∧ s0 1 3 < 260) → lv_has ls 5 [(0, .ref (h0 + 117)), (1, .int (xJ q))] → W p l e { frames := 6, cells := 0, slots := 0, locals := 131 } s m args below meth c H locs 0 0 Q (F0 m 20 ls []) := by
    intro ls v20_0  hl
    refine x_iload_n hx hb hl 1 rfl dX5_readPiece_20 rfl ?_
    refine x_bipush hx hb dX5_readPiece_21 (by decide) ?_
    refine x_icmp_lt (tgt := 42) hx hb rq (by decide) dX5_readPiece_23 (by decide) (fun c4 => False.elim (by omega)) (fun c4 => ?_)
    refine x_aload_n hx hb hl 0 rfl dX5_readPiece_26 rfl ?_
    refine x_get (j := 0) (v := .ref (h0 + 1)) hx hb hown hT hE hW cls_X5 (Or.inl (by decide)) (so_117 h0 g _) (by decide) rfl wq293 dX5_readPiece_27 ?_
    refine x_iconst hx hb dX5_readPiece_30 ?_
    refine x_aload_n hx hb hl 0 rfl dX5_readPiece_31 rfl ?_
    refine x_get (j := 0) (v := .ref (h0 + 1)) hx hb hown hT hE hW cls_X5 (Or.inl (by decide)) (so_117 h0 g _) (by decide) rfl wq293 dX5_readPiece_32 ?_
    refine x_getN (j := 3) (v := .int (xJ (s0 1 3))) hx hb hown hT hE hW cls_X8 (Or.inl (by decide)) (so_1 h0 g _) (by decide) rfl wn201 dX5_readPiece_35 ?_
    refine x_rd hW (fun x5 ex5 rx5 => ?_)
    refine x_goi (x_runVN (As := [.int (xJ 5), .int (xJ x5)]) hx hb hml hown hT hE hW hl.1 (Or.inl (by decide)) (so_1 h0 g _) rfl cf_X8_fails wq588 wq5 wn645 (c_X8_fails l D g T h0 s0 hW.2.1 5 (by decide) x5 rx5 p0) ⟨rfl, rfl, ⟨by decide, by decide⟩, ⟨by decide, by decide⟩⟩ rfl rfl (Nat.le_of_ble_eq_true rfl) dX5_readPiece_38) hW (fun x6 s7 H locs rx6 hp8 hW => ?_)
    obtain ⟨fs7, hp8⟩ := hp8
    have hF9 := hF.call fs7 (fun k h => by omega)
    have ghp8 := hp8.2
    rw [eQ]
    exact x_zret hx hb hr hlk hW (by omega) ⟨hF9, ⟨hp8.1.1, (hp8.1.2.1.trans k1_1), trivial⟩, by omega⟩ dX5_readPiece_41
  refine x_icmp_eq (tgt := 20) hx hb rx1 (by decide) dX5_readPiece_11 (by decide) (fun c10 => ?_) (fun c10 => ?_)
  · skip
    exact J20 ls (by omega)  (lv_sub hl [1, 2] rfl)
  refine x_iload_n hx hb hl 0 rfl dX5_readPiece_14 rfl ?_
  refine x_bipush hx hb dX5_readPiece_15 (by decide) ?_
  refine x_icmp_ne (tgt := 109) hx hb rx1 (by decide) dX5_readPiece_17 (by decide) (fun c11 => ?_) (fun c11 => ?_)
  · skip
    refine x_aload_n hx hb hl 1 rfl dX5_readPiece_109 rfl ?_
    refine x_iload_n hx hb hl 2 rfl dX5_readPiece_110 rfl ?_
    refine x_goi (x_runV (As := [.int (xJ q)]) hx hb hml hown hT hE hW hl.1 (Or.inl (by decide)) (so_117 h0 g _) rfl cf_X5_readSum wq652 wq16 wq650 (c_X5_readSumL6 l D g T h0 s0 hW.2.1 q rq (by omega) p0) ⟨rfl, rfl, ⟨by decide, by decide⟩, ⟨by decide, by decide⟩⟩ rfl rfl (Nat.le_of_ble_eq_true rfl) dX5_readPiece_111) hW (fun x12 s13 H locs rx12 hp14 hW => ?_)
    obtain ⟨fs13, hp14⟩ := hp14
    have hF15 := hF.call fs13 (fun k h => by omega)
    have ghp14 := hp14.2
    refine x_if_ne (tgt := 119) hx hb rx12 dX5_readPiece_114 (by decide) (fun c16 => ?_) (fun c16 => ?_)
    · skip
      refine x_aload_n hx hb hl 1 rfl dX5_readPiece_119 rfl ?_
      refine x_get (j := 0) (v := .ref (h0 + 1)) hx hb hown hT hE hW cls_X5 (Or.inl (by decide)) (so_117 h0 g _) (by decide) rfl wq293 dX5_readPiece_120 ?_
      refine x_goi (x_runVN (As := []) hx hb hml hown hT hE hW hl.1 (Or.inl (by decide)) (so_1 h0 g _) rfl cf_X8_sign wq581 wq4 wn641 (c_X8_sign l D g T h0 s13 hW.2.1 hp14.1.1) ⟨rfl, rfl, ⟨by decide, by decide⟩, ⟨by decide, by decide⟩⟩ rfl rfl (Nat.le_of_ble_eq_true rfl) dX5_readPiece_123) hW (fun x17 s18 H locs rx17 hp19 hW => ?_)
      obtain ⟨es18, hp19⟩ := hp19
      subst es18
      have ghp19 := hp19
      refine lv_istore_n (lv' := [(3, .int (xJ x17)), (2, .int (xJ x1)), (0, .ref (h0 + 117)), (1, .int (xJ q))]) hx hb dX5_readPiece_126 rfl hl (by decide) rfl (fun ls hl => ?_)
      refine x_iload_n hx hb hl 0 rfl dX5_readPiece_127 rfl ?_
      refine x_bipush hx hb dX5_readPiece_128 (by decide) ?_
      have J161 : ∀ (ls : Array Slot), (x17 ≠ -1) → lv_has ls 5 [(0, .ref (h0 + 117)), (1, .int (xJ q)), (3, .int (xJ x17))] → W p l e { frames := 6, cells := 0, slots := 0, locals := 131 } s m args below meth c H locs 0 0 Q (F0 m 161 ls []) := by
        intro ls v161_0  hl
        refine x_aload_n hx hb hl 0 rfl dX5_readPiece_161 rfl ?_
        refine x_get (j := 0) (v := .ref (h0 + 1)) hx hb hown hT hE hW cls_X5 (Or.inl (by decide)) (so_117 h0 g _) (by decide) rfl wq293 dX5_readPiece_162 ?_
        refine lv_dup hx hb dX5_readPiece_165 rfl ?_
        refine x_getN (j := 3) (v := .int (xJ (s13 1 3))) hx hb hown hT hE hW cls_X8 (Or.inl (by decide)) (so_1 h0 g _) (by decide) rfl wn201 dX5_readPiece_166 ?_
        refine x_rd hW (fun x20 ex20 rx20 => ?_)
        refine x_iconst hx hb dX5_readPiece_169 ?_
        refine x_iadd hx hb dX5_readPiece_170 ?_
        refine x_putN (j := 3) hx hb hown hT hE hW cls_X8 (by decide) (fun σ => so_1 h0 g σ) (by decide) (st_X8_3 h0 s13 1 (x20 + 1)) (ln_X8_3 h0 _ _) wn201 rfl rfl rfl (by omega) dX5_readPiece_171 (fun H locs s21 es21 hW => ?_)
        have q22 : IC s21 := by rw [es21]; exact IC_1 hp14.1.1 (by omega)
        have q23 : s21 1 1 = s0 1 1 := (show s21 1 1 = s13 1 1 from by rw [es21, xU_j _ _ (by decide)]).trans (hp14.1.2.1.trans k1_1)
        have hF24 := hF15.put es21 (by omega)
        refine x_aload_n hx hb hl 0 rfl dX5_readPiece_174 rfl ?_
        refine x_iload_n hx hb hl 1 rfl dX5_readPiece_175 rfl ?_
        refine x_goi (x_runV (As := [.int (xJ q)]) hx hb hml hown hT hE hW hl.1 (Or.inl (by decide)) (so_117 h0 g _) rfl cf_X5_readSum wq652 wq16 wq650 (c_X5_readSumL6 l D g T h0 s21 hW.2.1 q rq (by omega) q22) ⟨rfl, rfl, ⟨by decide, by decide⟩, ⟨by decide, by decide⟩⟩ rfl rfl (Nat.le_of_ble_eq_true rfl) dX5_readPiece_176) hW (fun x25 s26 H locs rx25 hp27 hW => ?_)
        obtain ⟨fs26, hp27⟩ := hp27
        have hF28 := hF24.call fs26 (fun k h => by omega)
        have ghp27 := hp27.2
        refine lv_istore (lv' := [(4, .int (xJ x25)), (0, .ref (h0 + 117)), (1, .int (xJ q)), (3, .int (xJ x17))]) hx hb dX5_readPiece_179 hl (by decide) rfl (fun ls hl => ?_)
        refine x_aload_n hx hb hl 1 rfl dX5_readPiece_181 rfl ?_
        refine x_get (j := 1) (v := .ref (h0 + 118)) hx hb hown hT hE hW cls_X5 (Or.inl (by decide)) (so_117 h0 g _) (by decide) rfl wq294 dX5_readPiece_182 ?_
        refine x_iload_n hx hb hl 3 rfl dX5_readPiece_185 rfl ?_
        refine x_iconst hx hb dX5_readPiece_186 ?_
        refine x_goi (x_runVN (As := [.int (xJ x17), .int (xJ 0)]) hx hb hml hown hT hE hW hl.1 (Or.inl (by decide)) (so_118 h0 g _) rfl cf_X4_put wq672 wq21 wn670 (c_X4_put l D g T h0 s26 hW.2.1 x17 rx17 0 (by decide) hp27.1.1) ⟨rfl, rfl, ⟨by decide, by decide⟩, ⟨by decide, by decide⟩⟩ rfl rfl (Nat.le_of_ble_eq_true rfl) dX5_readPiece_187) hW (fun x29 s30 H locs rx29 hp31 hW => ?_)
        obtain ⟨fs30, hp31⟩ := hp31
        have hF32 := hF28.call fs30 (fun k h => by omega)
        have q33 : s30 1 1 = s0 1 1 := (congrFun (fs30 _ (by omega)) _).trans (hp27.1.2.1.trans q23)
        have ghp31 := hp31.2
        refine lv_pop hx hb dX5_readPiece_190 rfl ?_
        refine x_iload hx hb hl 0 rfl dX5_readPiece_191 ?_
        rw [eQ]
        exact x_zret hx hb hr hlk hW (by omega) ⟨hF32, ⟨hp31.1.1, q33, trivial⟩, by omega⟩ dX5_readPiece_193
      refine x_icmp_eq (tgt := 161) hx hb rx17 (by decide) dX5_readPiece_130 (by decide) (fun c34 => ?_) (fun c34 => ?_)
      · skip
        exact J161 ls (by omega)  (lv_sub hl [2, 3, 0] rfl)
      refine x_iload_n hx hb hl 0 rfl dX5_readPiece_133 rfl ?_
      refine x_bipush hx hb dX5_readPiece_134 (by decide) ?_
      refine x_icmp_eq (tgt := 161) hx hb rx17 (by decide) dX5_readPiece_136 (by decide) (fun c35 => ?_) (fun c35 => ?_)
      · skip
        exact J161 ls (by omega)  (lv_sub hl [2, 3, 0] rfl)
      refine x_iload_n hx hb hl 0 rfl dX5_readPiece_139 rfl ?_
      refine x_bipush hx hb dX5_readPiece_140 (by decide) ?_
      refine x_icmp_eq (tgt := 161) hx hb rx17 (by decide) dX5_readPiece_142 (by decide) (fun c36 => ?_) (fun c36 => ?_)
      · skip
        exact J161 ls (by omega)  (lv_sub hl [2, 3, 0] rfl)
      refine x_aload_n hx hb hl 2 rfl dX5_readPiece_145 rfl ?_
      refine x_get (j := 0) (v := .ref (h0 + 1)) hx hb hown hT hE hW cls_X5 (Or.inl (by decide)) (so_117 h0 g _) (by decide) rfl wq293 dX5_readPiece_146 ?_
      refine x_iconst hx hb dX5_readPiece_149 ?_
      refine x_aload_n hx hb hl 2 rfl dX5_readPiece_150 rfl ?_
      refine x_get (j := 0) (v := .ref (h0 + 1)) hx hb hown hT hE hW cls_X5 (Or.inl (by decide)) (so_117 h0 g _) (by decide) rfl wq293 dX5_readPiece_151 ?_
      refine x_getN (j := 3) (v := .int (xJ (s13 1 3))) hx hb hown hT hE hW cls_X8 (Or.inl (by decide)) (so_1 h0 g _) (by decide) rfl wn201 dX5_readPiece_154 ?_
      refine x_rd hW (fun x37 ex37 rx37 => ?_)
      refine x_goi (x_runVN (As := [.int (xJ 1), .int (xJ x37)]) hx hb hml hown hT hE hW hl.1 (Or.inl (by decide)) (so_1 h0 g _) rfl cf_X8_fails wq588 wq5 wn645 (c_X8_fails l D g T h0 s13 hW.2.1 1 (by decide) x37 rx37 hp14.1.1) ⟨rfl, rfl, ⟨by decide, by decide⟩, ⟨by decide, by decide⟩⟩ rfl rfl (Nat.le_of_ble_eq_true rfl) dX5_readPiece_157) hW (fun x38 s39 H locs rx38 hp40 hW => ?_)
      obtain ⟨fs39, hp40⟩ := hp40
      have hF41 := hF15.call fs39 (fun k h => by omega)
      have ghp40 := hp40.2
      rw [eQ]
      exact x_zret hx hb hr hlk hW (by omega) ⟨hF41, ⟨hp40.1.1, (hp40.1.2.1.trans (hp14.1.2.1.trans k1_1)), trivial⟩, by omega⟩ dX5_readPiece_160
    refine x_iconst hx hb dX5_readPiece_117 ?_
    rw [eQ]
    exact x_zret hx hb hr hlk hW (by omega) ⟨hF15, ⟨hp14.1.1, (hp14.1.2.1.trans k1_1), trivial⟩, by omega⟩ dX5_readPiece_118
  exact J20 ls (by omega)  (lv_sub hl [1, 2] rfl)
set_option maxHeartbeats 4000000 in
set_option maxRecDepth 100000 in
theorem c_X5_readPiecesL6 (l : Launch) (D : va_G) (g : xG) (T : Nat × Nat × Nat) (h0 : Nat) (s0 : xS) (hσ : xRR s0) (q : Int) (rq : xR q) (hq : q = 6) (p0 : IC s0) : Met l yX5_readPieces (xws yX5_readPieces cX5_readPieces 4 (some .boolean)) { frames := 7, cells := 0, slots := 0, locals := 155 } (xP [.ref (h0 + 117), .int (xJ q)] D g T h0 s0) (xQi D g h0 (fun r τ => xFr (fun k => k = 1 ∨ k = 118 ∨ k = 119 ∨ k = 120) s0 τ ∧ (((IC τ) ∧ (τ 1 1 = s0 1 1) ∧ True) ∧ (r = 0 ∨ r = 1)))) 0 0 (xA h0) := by
  refine x_met hσ (by decide) (Nat.le_of_ble_eq_true rfl) ?_
  intro p e s m args below meth c hx hb hr hml hown hT hlk hnm hE hW ls hl
  have hl : lv_has ls 4 [(0, .ref (h0 + 117)), (1, .int (xJ q))] := hl
  obtain ⟨Q, eQ⟩ : ∃ Q, Q = MQ below (xQi D g h0 (fun r τ => xFr (fun k => k = 1 ∨ k = 118 ∨ k = 119 ∨ k = 120) s0 τ ∧ (((IC τ) ∧ (τ 1 1 = s0 1 1) ∧ True) ∧ (r = 0 ∨ r = 1)))) args s 0 0 (xA h0) := ⟨_, rfl⟩
  rw [← eQ]
  generalize hHe : ([] : List Loc) = locs at hW ⊢
  obtain ⟨H, eH⟩ : ∃ H, H = s.heap := ⟨_, rfl⟩
  rw [← eH] at hW ⊢
  have hF : xFr (fun k => k = 1 ∨ k = 118 ∨ k = 119 ∨ k = 120) s0 s0 := xFr.rf
  have k1_1 : s0 1 1 = s0 1 1 := rfl
  refine x_aload_n hx hb hl 0 rfl dX5_readPieces_0 rfl ?_
  refine x_iload_n hx hb hl 1 rfl dX5_readPieces_1 rfl ?_
  refine x_goi (x_runV (As := [.int (xJ q)]) hx hb hml hown hT hE hW hl.1 (Or.inl (by decide)) (so_117 h0 g _) rfl cf_X5_readPiece wq688 wq24 wq686 (c_X5_readPieceL6 l D g T h0 s0 hW.2.1 q rq (by omega) p0) ⟨rfl, rfl, ⟨by decide, by decide⟩, ⟨by decide, by decide⟩⟩ rfl rfl (Nat.le_of_ble_eq_true rfl) dX5_readPieces_2) hW (fun x1 s2 H locs rx1 hp3 hW => ?_)
  obtain ⟨fs2, hp3⟩ := hp3
  have hF4 := hF.call fs2 (fun k h => by omega)
  have ghp3 := hp3.2
  refine x_if_ne (tgt := 10) hx hb rx1 dX5_readPieces_5 (by decide) (fun c5 => ?_) (fun c5 => ?_)
  · skip
    refine x_iconst hx hb dX5_readPieces_10 ?_
    refine lv_istore_n (lv' := [(2, .int (xJ 0)), (0, .ref (h0 + 117)), (1, .int (xJ q))]) hx hb dX5_readPieces_11 rfl hl (by decide) rfl (fun ls hl => ?_)
    have L12 : ∀ (fu : Nat) (i2_12 : Int) (s_12 : xS) (H : Heap) (locs : List Loc) (ls : Array Slot), (xR i2_12) → (xFr (fun k => k = 1 ∨ k = 118 ∨ k = 119 ∨ k = 120) s0 s_12) → (IC s_12) → (s_12 1 1 = s0 1 1) → (0 ≤ i2_12) → (i2_12 ≤ 300) → (300 + 1 - i2_12).toNat < fu → xW D g h0 s H locs s_12 → lv_has ls 4 [(0, .ref (h0 + 117)), (1, .int (xJ q)), (2, .int (xJ i2_12))] → W p l e { frames := 7, cells := 0, slots := 0, locals := 155 } s m args below meth c H locs 0 0 Q (F0 m 12 ls []) := by
      intro fu
      induction fu with
      | zero => intro i2_12 s_12 H locs ls ri2_12 hF_12 q12_0 q12_1 v12_0 v12_1 hm; exact absurd hm (Nat.not_lt_zero _)
      | succ fu ih12 =>
        intro i2_12 s_12 H locs ls ri2_12 hF_12 q12_0 q12_1 v12_0 v12_1 hm hW hl
        refine x_iload_n hx hb hl 2 rfl dX5_readPieces_12 rfl ?_
        refine x_sipush hx hb dX5_readPieces_13 (by decide) ?_
        refine x_icmp_ge (tgt := 78) hx hb ri2_12 (by decide) dX5_readPieces_16 (by decide) (fun c6 => ?_) (fun c6 => ?_)
        · skip
          refine x_iconst hx hb dX5_readPieces_78 ?_
          rw [eQ]
          exact x_zret hx hb hr hlk hW (by omega) ⟨hF_12, ⟨q12_0, q12_1, trivial⟩, by omega⟩ dX5_readPieces_79
        refine x_aload_n hx hb hl 0 rfl dX5_readPieces_19 rfl ?_
        refine x_get (j := 0) (v := .ref (h0 + 1)) hx hb hown hT hE hW cls_X5 (Or.inl (by decide)) (so_117 h0 g _) (by decide) rfl wq293 dX5_readPieces_20 ?_
        refine x_goi (x_runVN (As := []) hx hb hml hown hT hE hW hl.1 (Or.inl (by decide)) (so_1 h0 g _) rfl cf_X8_sign wq581 wq4 wn641 (c_X8_sign l D g T h0 s_12 hW.2.1 q12_0) ⟨rfl, rfl, ⟨by decide, by decide⟩, ⟨by decide, by decide⟩⟩ rfl rfl (Nat.le_of_ble_eq_true rfl) dX5_readPieces_23) hW (fun x7 s8 H locs rx7 hp9 hW => ?_)
        obtain ⟨es8, hp9⟩ := hp9
        subst es8
        have ghp9 := hp9
        refine x_bipush hx hb dX5_readPieces_26 (by decide) ?_
        refine x_icmp_ne (tgt := 78) hx hb rx7 (by decide) dX5_readPieces_28 (by decide) (fun c10 => ?_) (fun c10 => ?_)
        · skip
          refine x_iconst hx hb dX5_readPieces_78 ?_
          rw [eQ]
          exact x_zret hx hb hr hlk hW (by omega) ⟨hF_12, ⟨q12_0, q12_1, trivial⟩, by omega⟩ dX5_readPieces_79
        refine x_aload_n hx hb hl 0 rfl dX5_readPieces_31 rfl ?_
        refine x_get (j := 0) (v := .ref (h0 + 1)) hx hb hown hT hE hW cls_X5 (Or.inl (by decide)) (so_117 h0 g _) (by decide) rfl wq293 dX5_readPieces_32 ?_
        refine lv_dup hx hb dX5_readPieces_35 rfl ?_
        refine x_getN (j := 3) (v := .int (xJ (s_12 1 3))) hx hb hown hT hE hW cls_X8 (Or.inl (by decide)) (so_1 h0 g _) (by decide) rfl wn201 dX5_readPieces_36 ?_
        refine x_rd hW (fun x11 ex11 rx11 => ?_)
        refine x_iconst hx hb dX5_readPieces_39 ?_
        refine x_iadd hx hb dX5_readPieces_40 ?_
        refine x_putN (j := 3) hx hb hown hT hE hW cls_X8 (by decide) (fun σ => so_1 h0 g σ) (by decide) (st_X8_3 h0 s_12 1 (x11 + 1)) (ln_X8_3 h0 _ _) wn201 rfl rfl rfl (by omega) dX5_readPieces_41 (fun H locs s12 es12 hW => ?_)
        have q13 : IC s12 := by rw [es12]; exact IC_1 q12_0 (by omega)
        have q14 : s12 1 1 = s0 1 1 := (show s12 1 1 = s_12 1 1 from by rw [es12, xU_j _ _ (by decide)]).trans q12_1
        have hF15 := hF_12.put es12 (by omega)
        refine x_aload_n hx hb hl 0 rfl dX5_readPieces_44 rfl ?_
        refine x_get (j := 1) (v := .ref (h0 + 118)) hx hb hown hT hE hW cls_X5 (Or.inl (by decide)) (so_117 h0 g _) (by decide) rfl wq294 dX5_readPieces_45 ?_
        refine x_iconst hx hb dX5_readPieces_48 ?_
        refine x_iconst hx hb dX5_readPieces_49 ?_
        refine x_goi (x_runVN (As := [.int (xJ 4), .int (xJ 0)]) hx hb hml hown hT hE hW hl.1 (Or.inl (by decide)) (so_118 h0 g _) rfl cf_X4_put wq672 wq21 wn670 (c_X4_put l D g T h0 s12 hW.2.1 4 (by decide) 0 (by decide) q13) ⟨rfl, rfl, ⟨by decide, by decide⟩, ⟨by decide, by decide⟩⟩ rfl rfl (Nat.le_of_ble_eq_true rfl) dX5_readPieces_50) hW (fun x16 s17 H locs rx16 hp18 hW => ?_)
        obtain ⟨fs17, hp18⟩ := hp18
        have hF19 := hF15.call fs17 (fun k h => by omega)
        have q20 : s17 1 1 = s0 1 1 := (congrFun (fs17 _ (by omega)) _).trans q14
        have ghp18 := hp18.2
        refine lv_istore_n (lv' := [(3, .int (xJ x16)), (0, .ref (h0 + 117)), (1, .int (xJ q)), (2, .int (xJ i2_12))]) hx hb dX5_readPieces_53 rfl hl (by decide) rfl (fun ls hl => ?_)
        refine x_aload_n hx hb hl 1 rfl dX5_readPieces_54 rfl ?_
        refine x_iload_n hx hb hl 2 rfl dX5_readPieces_55 rfl ?_
        refine x_goi (x_runV (As := [.int (xJ q)]) hx hb hml hown hT hE hW hl.1 (Or.inl (by decide)) (so_117 h0 g _) rfl cf_X5_readPiece wq688 wq24 wq686 (c_X5_readPieceL6 l D g T h0 s17 hW.2.1 q rq (by omega) hp18.1.1) ⟨rfl, rfl, ⟨by decide, by decide⟩, ⟨by decide, by decide⟩⟩ rfl rfl (Nat.le_of_ble_eq_true rfl) dX5_readPieces_56) hW (fun x21 s22 H locs rx21 hp23 hW => ?_)
        obtain ⟨fs22, hp23⟩ := hp23
        have hF24 := hF19.call fs22 (fun k h => by omega)
        have ghp23 := hp23.2
        refine x_if_ne (tgt := 64) hx hb rx21 dX5_readPieces_59 (by decide) (fun c25 => ?_) (fun c25 => ?_)
        · skip
          refine x_aload_n hx hb hl 1 rfl dX5_readPieces_64 rfl ?_
          refine x_get (j := 1) (v := .ref (h0 + 118)) hx hb hown hT hE hW cls_X5 (Or.inl (by decide)) (so_117 h0 g _) (by decide) rfl wq294 dX5_readPieces_65 ?_
          refine x_iload_n hx hb hl 0 rfl dX5_readPieces_68 rfl ?_
          refine x_gov (x_runVN (As := [.int (xJ x16)]) hx hb hml hown hT hE hW hl.1 (Or.inl (by decide)) (so_118 h0 g _) rfl cf_X4_landSkip wq692 wq25 wn690 (c_X4_landSkip l D g T h0 s22 hW.2.1 x16 rx16 hp23.1.1) ⟨rfl, rfl, ⟨by decide, by decide⟩, ⟨by decide, by decide⟩⟩ rfl rfl (Nat.le_of_ble_eq_true rfl) dX5_readPieces_69) hW (fun s27 H locs hp28 hW => ?_)
          obtain ⟨fs27, hp28⟩ := hp28
          have hF29 := hF24.call fs27 (fun k h => by omega)
          have q30 : s27 1 1 = s0 1 1 := (congrFun (fs27 _ (by omega)) _).trans (hp23.1.2.1.trans q20)
          have ghp28 := hp28.2
          refine x_iinc (lv' := [(2, .int (xJ (i2_12 + 1))), (3, .int (xJ x16)), (0, .ref (h0 + 117)), (1, .int (xJ q))]) hx hb hl 3 rfl dX5_readPieces_72 (by decide) rfl (fun ls hl => ?_)
          refine lv_goto (tgt := 12) hx hb dX5_readPieces_75 (by decide) ?_
          exact ih12 (i2_12 + 1) s27 H locs ls (by omega) hF29 hp28.1.1 q30 (by omega) (by omega) (by omega) hW (lv_sub hl [2, 3, 0] rfl)
        refine x_iconst hx hb dX5_readPieces_62 ?_
        rw [eQ]
        exact x_zret hx hb hr hlk hW (by omega) ⟨hF24, ⟨hp23.1.1, (hp23.1.2.1.trans q20), trivial⟩, by omega⟩ dX5_readPieces_63
    exact L12 ((300 + 1 - 0 : Int).toNat + 1) 0 s2 H locs ls (by decide) hF4 hp3.1.1 (hp3.1.2.1.trans k1_1) (by omega) (by omega) (Nat.lt_succ_self _) hW (lv_sub hl [1, 2, 0] rfl)
  refine x_iconst hx hb dX5_readPieces_8 ?_
  rw [eQ]
  exact x_zret hx hb hr hlk hW (by omega) ⟨hF4, ⟨hp3.1.1, (hp3.1.2.1.trans k1_1), trivial⟩, by omega⟩ dX5_readPieces_9
set_option maxHeartbeats 4000000 in
set_option maxRecDepth 100000 in
theorem c_X5_readPartsL6 (l : Launch) (D : va_G) (g : xG) (T : Nat × Nat × Nat) (h0 : Nat) (s0 : xS) (hσ : xRR s0) (q : Int) (rq : xR q) (hq : q = 6) (p0 : IC s0) : Met l yX5_readParts (xws yX5_readParts cX5_readParts 4 (some .boolean)) { frames := 8, cells := 0, slots := 0, locals := 178 } (xP [.ref (h0 + 117), .int (xJ q)] D g T h0 s0) (xQi D g h0 (fun r τ => xFr (fun k => k = 1 ∨ k = 118 ∨ k = 119 ∨ k = 120) s0 τ ∧ (((IC τ) ∧ (τ 1 1 = s0 1 1) ∧ True) ∧ (r = 0 ∨ r = 1)))) 0 0 (xA h0) := by
  refine x_met hσ (by decide) (Nat.le_of_ble_eq_true rfl) ?_
  intro p e s m args below meth c hx hb hr hml hown hT hlk hnm hE hW ls hl
  have hl : lv_has ls 4 [(0, .ref (h0 + 117)), (1, .int (xJ q))] := hl
  obtain ⟨Q, eQ⟩ : ∃ Q, Q = MQ below (xQi D g h0 (fun r τ => xFr (fun k => k = 1 ∨ k = 118 ∨ k = 119 ∨ k = 120) s0 τ ∧ (((IC τ) ∧ (τ 1 1 = s0 1 1) ∧ True) ∧ (r = 0 ∨ r = 1)))) args s 0 0 (xA h0) := ⟨_, rfl⟩
  rw [← eQ]
  generalize hHe : ([] : List Loc) = locs at hW ⊢
  obtain ⟨H, eH⟩ : ∃ H, H = s.heap := ⟨_, rfl⟩
  rw [← eH] at hW ⊢
  have hF : xFr (fun k => k = 1 ∨ k = 118 ∨ k = 119 ∨ k = 120) s0 s0 := xFr.rf
  have k1_1 : s0 1 1 = s0 1 1 := rfl
  refine x_aload_n hx hb hl 0 rfl dX5_readParts_0 rfl ?_
  refine x_iload_n hx hb hl 1 rfl dX5_readParts_1 rfl ?_
  refine x_goi (x_runV (As := [.int (xJ q)]) hx hb hml hown hT hE hW hl.1 (Or.inl (by decide)) (so_117 h0 g _) rfl cf_X5_readPieces wq684 wq23 wq682 (c_X5_readPiecesL6 l D g T h0 s0 hW.2.1 q rq (by omega) p0) ⟨rfl, rfl, ⟨by decide, by decide⟩, ⟨by decide, by decide⟩⟩ rfl rfl (Nat.le_of_ble_eq_true rfl) dX5_readParts_2) hW (fun x1 s2 H locs rx1 hp3 hW => ?_)
  obtain ⟨fs2, hp3⟩ := hp3
  have hF4 := hF.call fs2 (fun k h => by omega)
  have ghp3 := hp3.2
  refine x_if_ne (tgt := 10) hx hb rx1 dX5_readParts_5 (by decide) (fun c5 => ?_) (fun c5 => ?_)
  · skip
    refine x_iconst hx hb dX5_readParts_10 ?_
    refine lv_istore_n (lv' := [(2, .int (xJ 0)), (0, .ref (h0 + 117)), (1, .int (xJ q))]) hx hb dX5_readParts_11 rfl hl (by decide) rfl (fun ls hl => ?_)
    have L12 : ∀ (fu : Nat) (i2_12 : Int) (s_12 : xS) (H : Heap) (locs : List Loc) (ls : Array Slot), (xR i2_12) → (xFr (fun k => k = 1 ∨ k = 118 ∨ k = 119 ∨ k = 120) s0 s_12) → (IC s_12) → (s_12 1 1 = s0 1 1) → (0 ≤ i2_12) → (i2_12 ≤ 300) → (300 + 1 - i2_12).toNat < fu → xW D g h0 s H locs s_12 → lv_has ls 4 [(0, .ref (h0 + 117)), (1, .int (xJ q)), (2, .int (xJ i2_12))] → W p l e { frames := 8, cells := 0, slots := 0, locals := 178 } s m args below meth c H locs 0 0 Q (F0 m 12 ls []) := by
      intro fu
      induction fu with
      | zero => intro i2_12 s_12 H locs ls ri2_12 hF_12 q12_0 q12_1 v12_0 v12_1 hm; exact absurd hm (Nat.not_lt_zero _)
      | succ fu ih12 =>
        intro i2_12 s_12 H locs ls ri2_12 hF_12 q12_0 q12_1 v12_0 v12_1 hm hW hl
        refine x_iload_n hx hb hl 2 rfl dX5_readParts_12 rfl ?_
        refine x_sipush hx hb dX5_readParts_13 (by decide) ?_
        refine x_icmp_ge (tgt := 78) hx hb ri2_12 (by decide) dX5_readParts_16 (by decide) (fun c6 => ?_) (fun c6 => ?_)
        · skip
          refine x_iconst hx hb dX5_readParts_78 ?_
          rw [eQ]
          exact x_zret hx hb hr hlk hW (by omega) ⟨hF_12, ⟨q12_0, q12_1, trivial⟩, by omega⟩ dX5_readParts_79
        refine x_aload_n hx hb hl 0 rfl dX5_readParts_19 rfl ?_
        refine x_get (j := 0) (v := .ref (h0 + 1)) hx hb hown hT hE hW cls_X5 (Or.inl (by decide)) (so_117 h0 g _) (by decide) rfl wq293 dX5_readParts_20 ?_
        refine x_goi (x_runVN (As := []) hx hb hml hown hT hE hW hl.1 (Or.inl (by decide)) (so_1 h0 g _) rfl cf_X8_sign wq581 wq4 wn641 (c_X8_sign l D g T h0 s_12 hW.2.1 q12_0) ⟨rfl, rfl, ⟨by decide, by decide⟩, ⟨by decide, by decide⟩⟩ rfl rfl (Nat.le_of_ble_eq_true rfl) dX5_readParts_23) hW (fun x7 s8 H locs rx7 hp9 hW => ?_)
        obtain ⟨es8, hp9⟩ := hp9
        subst es8
        have ghp9 := hp9
        refine x_bipush hx hb dX5_readParts_26 (by decide) ?_
        refine x_icmp_ne (tgt := 78) hx hb rx7 (by decide) dX5_readParts_28 (by decide) (fun c10 => ?_) (fun c10 => ?_)
        · skip
          refine x_iconst hx hb dX5_readParts_78 ?_
          rw [eQ]
          exact x_zret hx hb hr hlk hW (by omega) ⟨hF_12, ⟨q12_0, q12_1, trivial⟩, by omega⟩ dX5_readParts_79
        refine x_aload_n hx hb hl 0 rfl dX5_readParts_31 rfl ?_
        refine x_get (j := 0) (v := .ref (h0 + 1)) hx hb hown hT hE hW cls_X5 (Or.inl (by decide)) (so_117 h0 g _) (by decide) rfl wq293 dX5_readParts_32 ?_
        refine lv_dup hx hb dX5_readParts_35 rfl ?_
        refine x_getN (j := 3) (v := .int (xJ (s_12 1 3))) hx hb hown hT hE hW cls_X8 (Or.inl (by decide)) (so_1 h0 g _) (by decide) rfl wn201 dX5_readParts_36 ?_
        refine x_rd hW (fun x11 ex11 rx11 => ?_)
        refine x_iconst hx hb dX5_readParts_39 ?_
        refine x_iadd hx hb dX5_readParts_40 ?_
        refine x_putN (j := 3) hx hb hown hT hE hW cls_X8 (by decide) (fun σ => so_1 h0 g σ) (by decide) (st_X8_3 h0 s_12 1 (x11 + 1)) (ln_X8_3 h0 _ _) wn201 rfl rfl rfl (by omega) dX5_readParts_41 (fun H locs s12 es12 hW => ?_)
        have q13 : IC s12 := by rw [es12]; exact IC_1 q12_0 (by omega)
        have q14 : s12 1 1 = s0 1 1 := (show s12 1 1 = s_12 1 1 from by rw [es12, xU_j _ _ (by decide)]).trans q12_1
        have hF15 := hF_12.put es12 (by omega)
        refine x_aload_n hx hb hl 0 rfl dX5_readParts_44 rfl ?_
        refine x_get (j := 1) (v := .ref (h0 + 118)) hx hb hown hT hE hW cls_X5 (Or.inl (by decide)) (so_117 h0 g _) (by decide) rfl wq294 dX5_readParts_45 ?_
        refine x_iconst hx hb dX5_readParts_48 ?_
        refine x_iconst hx hb dX5_readParts_49 ?_
        refine x_goi (x_runVN (As := [.int (xJ 5), .int (xJ 0)]) hx hb hml hown hT hE hW hl.1 (Or.inl (by decide)) (so_118 h0 g _) rfl cf_X4_put wq672 wq21 wn670 (c_X4_put l D g T h0 s12 hW.2.1 5 (by decide) 0 (by decide) q13) ⟨rfl, rfl, ⟨by decide, by decide⟩, ⟨by decide, by decide⟩⟩ rfl rfl (Nat.le_of_ble_eq_true rfl) dX5_readParts_50) hW (fun x16 s17 H locs rx16 hp18 hW => ?_)
        obtain ⟨fs17, hp18⟩ := hp18
        have hF19 := hF15.call fs17 (fun k h => by omega)
        have q20 : s17 1 1 = s0 1 1 := (congrFun (fs17 _ (by omega)) _).trans q14
        have ghp18 := hp18.2
        refine lv_istore_n (lv' := [(3, .int (xJ x16)), (0, .ref (h0 + 117)), (1, .int (xJ q)), (2, .int (xJ i2_12))]) hx hb dX5_readParts_53 rfl hl (by decide) rfl (fun ls hl => ?_)
        refine x_aload_n hx hb hl 1 rfl dX5_readParts_54 rfl ?_
        refine x_iload_n hx hb hl 2 rfl dX5_readParts_55 rfl ?_
        refine x_goi (x_runV (As := [.int (xJ q)]) hx hb hml hown hT hE hW hl.1 (Or.inl (by decide)) (so_117 h0 g _) rfl cf_X5_readPieces wq684 wq23 wq682 (c_X5_readPiecesL6 l D g T h0 s17 hW.2.1 q rq (by omega) hp18.1.1) ⟨rfl, rfl, ⟨by decide, by decide⟩, ⟨by decide, by decide⟩⟩ rfl rfl (Nat.le_of_ble_eq_true rfl) dX5_readParts_56) hW (fun x21 s22 H locs rx21 hp23 hW => ?_)
        obtain ⟨fs22, hp23⟩ := hp23
        have hF24 := hF19.call fs22 (fun k h => by omega)
        have ghp23 := hp23.2
        refine x_if_ne (tgt := 64) hx hb rx21 dX5_readParts_59 (by decide) (fun c25 => ?_) (fun c25 => ?_)
        · skip
          refine x_aload_n hx hb hl 1 rfl dX5_readParts_64 rfl ?_
          refine x_get (j := 1) (v := .ref (h0 + 118)) hx hb hown hT hE hW cls_X5 (Or.inl (by decide)) (so_117 h0 g _) (by decide) rfl wq294 dX5_readParts_65 ?_
          refine x_iload_n hx hb hl 0 rfl dX5_readParts_68 rfl ?_
          refine x_gov (x_runVN (As := [.int (xJ x16)]) hx hb hml hown hT hE hW hl.1 (Or.inl (by decide)) (so_118 h0 g _) rfl cf_X4_landSkip wq692 wq25 wn690 (c_X4_landSkip l D g T h0 s22 hW.2.1 x16 rx16 hp23.1.1) ⟨rfl, rfl, ⟨by decide, by decide⟩, ⟨by decide, by decide⟩⟩ rfl rfl (Nat.le_of_ble_eq_true rfl) dX5_readParts_69) hW (fun s27 H locs hp28 hW => ?_)
          obtain ⟨fs27, hp28⟩ := hp28
          have hF29 := hF24.call fs27 (fun k h => by omega)
          have q30 : s27 1 1 = s0 1 1 := (congrFun (fs27 _ (by omega)) _).trans (hp23.1.2.1.trans q20)
          have ghp28 := hp28.2
          refine x_iinc (lv' := [(2, .int (xJ (i2_12 + 1))), (3, .int (xJ x16)), (0, .ref (h0 + 117)), (1, .int (xJ q))]) hx hb hl 3 rfl dX5_readParts_72 (by decide) rfl (fun ls hl => ?_)
          refine lv_goto (tgt := 12) hx hb dX5_readParts_75 (by decide) ?_
          exact ih12 (i2_12 + 1) s27 H locs ls (by omega) hF29 hp28.1.1 q30 (by omega) (by omega) (by omega) hW (lv_sub hl [2, 3, 0] rfl)
        refine x_iconst hx hb dX5_readParts_62 ?_
        rw [eQ]
        exact x_zret hx hb hr hlk hW (by omega) ⟨hF24, ⟨hp23.1.1, (hp23.1.2.1.trans q20), trivial⟩, by omega⟩ dX5_readParts_63
    exact L12 ((300 + 1 - 0 : Int).toNat + 1) 0 s2 H locs ls (by decide) hF4 hp3.1.1 (hp3.1.2.1.trans k1_1) (by omega) (by omega) (Nat.lt_succ_self _) hW (lv_sub hl [1, 2, 0] rfl)
  refine x_iconst hx hb dX5_readParts_8 ?_
  rw [eQ]
  exact x_zret hx hb hr hlk hW (by omega) ⟨hF4, ⟨hp3.1.1, (hp3.1.2.1.trans k1_1), trivial⟩, by omega⟩ dX5_readParts_9
set_option maxHeartbeats 4000000 in
set_option maxRecDepth 100000 in
theorem c_X5_readPieceL5 (l : Launch) (D : va_G) (g : xG) (T : Nat × Nat × Nat) (h0 : Nat) (s0 : xS) (hσ : xRR s0) (q : Int) (rq : xR q) (hq : q = 5) (p0 : IC s0) : Met l yX5_readPiece (xws yX5_readPiece cX5_readPiece 5 (some .boolean)) { frames := 9, cells := 0, slots := 0, locals := 201 } (xP [.ref (h0 + 117), .int (xJ q)] D g T h0 s0) (xQi D g h0 (fun r τ => xFr (fun k => k = 1 ∨ k = 118 ∨ k = 119 ∨ k = 120) s0 τ ∧ (((IC τ) ∧ (τ 1 1 = s0 1 1) ∧ True) ∧ (r = 0 ∨ r = 1)))) 0 0 (xA h0) := by
  refine x_met hσ (by decide) (Nat.le_of_ble_eq_true rfl) ?_
  intro p e s m args below meth c hx hb hr hml hown hT hlk hnm hE hW ls hl
  have hl : lv_has ls 5 [(0, .ref (h0 + 117)), (1, .int (xJ q))] := hl
  obtain ⟨Q, eQ⟩ : ∃ Q, Q = MQ below (xQi D g h0 (fun r τ => xFr (fun k => k = 1 ∨ k = 118 ∨ k = 119 ∨ k = 120) s0 τ ∧ (((IC τ) ∧ (τ 1 1 = s0 1 1) ∧ True) ∧ (r = 0 ∨ r = 1)))) args s 0 0 (xA h0) := ⟨_, rfl⟩
  rw [← eQ]
  generalize hHe : ([] : List Loc) = locs at hW ⊢
  obtain ⟨H, eH⟩ : ∃ H, H = s.heap := ⟨_, rfl⟩
  rw [← eH] at hW ⊢
  have hF : xFr (fun k => k = 1 ∨ k = 118 ∨ k = 119 ∨ k = 120) s0 s0 := xFr.rf
  have k1_1 : s0 1 1 = s0 1 1 := rfl
  refine x_aload_n hx hb hl 0 rfl dX5_readPiece_0 rfl ?_
  refine x_get (j := 0) (v := .ref (h0 + 1)) hx hb hown hT hE hW cls_X5 (Or.inl (by decide)) (so_117 h0 g _) (by decide) rfl wq293 dX5_readPiece_1 ?_
  refine x_goi (x_runVN (As := []) hx hb hml hown hT hE hW hl.1 (Or.inl (by decide)) (so_1 h0 g _) rfl cf_X8_sign wq581 wq4 wn641 (c_X8_sign l D g T h0 s0 hW.2.1 p0) ⟨rfl, rfl, ⟨by decide, by decide⟩, ⟨by decide, by decide⟩⟩ rfl rfl (Nat.le_of_ble_eq_true rfl) dX5_readPiece_4) hW (fun x1 s2 H locs rx1 hp3 hW => ?_)
  obtain ⟨es2, hp3⟩ := hp3
  subst es2
  have ghp3 := hp3
  refine lv_istore_n (lv' := [(2, .int (xJ x1)), (0, .ref (h0 + 117)), (1, .int (xJ q))]) hx hb dX5_readPiece_7 rfl hl (by decide) rfl (fun ls hl => ?_)
  refine x_iload_n hx hb hl 0 rfl dX5_readPiece_8 rfl ?_
  refine x_bipush hx hb dX5_readPiece_9 (by decide) ?_
  have J20 : ∀ (ls : Array Slot), (0 ≤ s0 1 3 ∧ s0 1 3 < 260) → lv_has ls 5 [(0, .ref (h0 + 117)), (1, .int (xJ q)), (2, .int (xJ x1))] → W p l e { frames := 9, cells := 0, slots := 0, locals := 201 } s m args below meth c H locs 0 0 Q (F0 m 20 ls []) := by
    intro ls v20_0  hl
    refine x_iload_n hx hb hl 1 rfl dX5_readPiece_20 rfl ?_
    refine x_bipush hx hb dX5_readPiece_21 (by decide) ?_
    refine x_icmp_lt (tgt := 42) hx hb rq (by decide) dX5_readPiece_23 (by decide) (fun c4 => ?_) (fun c4 => False.elim (by omega))
    refine x_aload_n hx hb hl 0 rfl dX5_readPiece_42 rfl ?_
    refine x_get (j := 0) (v := .ref (h0 + 1)) hx hb hown hT hE hW cls_X5 (Or.inl (by decide)) (so_117 h0 g _) (by decide) rfl wq293 dX5_readPiece_43 ?_
    refine lv_dup hx hb dX5_readPiece_46 rfl ?_
    refine x_getN (j := 3) (v := .int (xJ (s0 1 3))) hx hb hown hT hE hW cls_X8 (Or.inl (by decide)) (so_1 h0 g _) (by decide) rfl wn201 dX5_readPiece_47 ?_
    refine x_rd hW (fun x5 ex5 rx5 => ?_)
    refine x_iconst hx hb dX5_readPiece_50 ?_
    refine x_iadd hx hb dX5_readPiece_51 ?_
    refine x_putN (j := 3) hx hb hown hT hE hW cls_X8 (by decide) (fun σ => so_1 h0 g σ) (by decide) (st_X8_3 h0 s0 1 (x5 + 1)) (ln_X8_3 h0 _ _) wn201 rfl rfl rfl (by omega) dX5_readPiece_52 (fun H locs s6 es6 hW => ?_)
    have q7 : IC s6 := by rw [es6]; exact IC_1 p0 (by omega)
    have q8 : s6 1 1 = s0 1 1 := (show s6 1 1 = s0 1 1 from by rw [es6, xU_j _ _ (by decide)]).trans k1_1
    have hF9 := hF.put es6 (by omega)
    refine x_iload_n hx hb hl 2 rfl dX5_readPiece_55 rfl ?_
    refine x_bipush hx hb dX5_readPiece_56 (by decide) ?_
    refine x_icmp_ne (tgt := 89) hx hb rx1 (by decide) dX5_readPiece_58 (by decide) (fun c10 => ?_) (fun c10 => ?_)
    · skip
      refine x_aload_n hx hb hl 0 rfl dX5_readPiece_89 rfl ?_
      refine x_iload_n hx hb hl 1 rfl dX5_readPiece_90 rfl ?_
      refine x_iconst hx hb dX5_readPiece_91 ?_
      refine x_iadd hx hb dX5_readPiece_92 ?_
      refine x_goi (x_runV (As := [.int (xJ (q + 1))]) hx hb hml hown hT hE hW hl.1 (Or.inl (by decide)) (so_117 h0 g _) rfl cf_X5_readPiece wq688 wq24 wq686 (c_X5_readPieceL6 l D g T h0 s6 hW.2.1 (q + 1) (by omega) (by omega) q7) ⟨rfl, rfl, ⟨by decide, by decide⟩, ⟨by decide, by decide⟩⟩ rfl rfl (Nat.le_of_ble_eq_true rfl) dX5_readPiece_93) hW (fun x11 s12 H locs rx11 hp13 hW => ?_)
      obtain ⟨fs12, hp13⟩ := hp13
      have hF14 := hF9.call fs12 (fun k h => by omega)
      have ghp13 := hp13.2
      refine lv_istore_n (lv' := [(3, .int (xJ x11)), (0, .ref (h0 + 117)), (1, .int (xJ q)), (2, .int (xJ x1))]) hx hb dX5_readPiece_96 rfl hl (by decide) rfl (fun ls hl => ?_)
      refine x_aload_n hx hb hl 1 rfl dX5_readPiece_97 rfl ?_
      refine x_get (j := 1) (v := .ref (h0 + 118)) hx hb hown hT hE hW cls_X5 (Or.inl (by decide)) (so_117 h0 g _) (by decide) rfl wq294 dX5_readPiece_98 ?_
      refine x_iconst hx hb dX5_readPiece_101 ?_
      refine x_iconst hx hb dX5_readPiece_102 ?_
      refine x_goi (x_runVN (As := [.int (xJ 3), .int (xJ 0)]) hx hb hml hown hT hE hW hl.1 (Or.inl (by decide)) (so_118 h0 g _) rfl cf_X4_put wq672 wq21 wn670 (c_X4_put l D g T h0 s12 hW.2.1 3 (by decide) 0 (by decide) hp13.1.1) ⟨rfl, rfl, ⟨by decide, by decide⟩, ⟨by decide, by decide⟩⟩ rfl rfl (Nat.le_of_ble_eq_true rfl) dX5_readPiece_103) hW (fun x15 s16 H locs rx15 hp17 hW => ?_)
      obtain ⟨fs16, hp17⟩ := hp17
      have hF18 := hF14.call fs16 (fun k h => by omega)
      have q19 : s16 1 1 = s0 1 1 := (congrFun (fs16 _ (by omega)) _).trans (hp13.1.2.1.trans q8)
      have ghp17 := hp17.2
      refine lv_pop hx hb dX5_readPiece_106 rfl ?_
      refine x_iload_n hx hb hl 0 rfl dX5_readPiece_107 rfl ?_
      rw [eQ]
      exact x_zret hx hb hr hlk hW (by omega) ⟨hF18, ⟨hp17.1.1, q19, trivial⟩, by omega⟩ dX5_readPiece_108
    refine x_aload_n hx hb hl 0 rfl dX5_readPiece_61 rfl ?_
    refine x_iload_n hx hb hl 1 rfl dX5_readPiece_62 rfl ?_
    refine x_iconst hx hb dX5_readPiece_63 ?_
    refine x_iadd hx hb dX5_readPiece_64 ?_
    refine x_goi (x_runV (As := [.int (xJ (q + 1))]) hx hb hml hown hT hE hW hl.1 (Or.inl (by decide)) (so_117 h0 g _) rfl cf_X5_readParts wq680 wq22 wq678 (c_X5_readPartsL6 l D g T h0 s6 hW.2.1 (q + 1) (by omega) (by omega) q7) ⟨rfl, rfl, ⟨by decide, by decide⟩, ⟨by decide, by decide⟩⟩ rfl rfl (Nat.le_of_ble_eq_true rfl) dX5_readPiece_65) hW (fun x20 s21 H locs rx20 hp22 hW => ?_)
    obtain ⟨fs21, hp22⟩ := hp22
    have hF23 := hF9.call fs21 (fun k h => by omega)
    have ghp22 := hp22.2
    refine x_if_eq (tgt := 87) hx hb rx20 dX5_readPiece_68 (by decide) (fun c24 => ?_) (fun c24 => ?_)
    · skip
      refine x_iconst hx hb dX5_readPiece_87 ?_
      rw [eQ]
      exact x_zret hx hb hr hlk hW (by omega) ⟨hF23, ⟨hp22.1.1, (hp22.1.2.1.trans q8), trivial⟩, by omega⟩ dX5_readPiece_88
    refine x_aload_n hx hb hl 0 rfl dX5_readPiece_71 rfl ?_
    refine x_get (j := 0) (v := .ref (h0 + 1)) hx hb hown hT hE hW cls_X5 (Or.inl (by decide)) (so_117 h0 g _) (by decide) rfl wq293 dX5_readPiece_72 ?_
    refine x_bipush hx hb dX5_readPiece_75 (by decide) ?_
    refine x_goi (x_runVN (As := [.int (xJ 41)]) hx hb hml hown hT hE hW hl.1 (Or.inl (by decide)) (so_1 h0 g _) rfl cf_X8_passes wq598 wq6 wn674 (c_X8_passes l D g T h0 s21 hW.2.1 41 (by decide) hp22.1.1) ⟨rfl, rfl, ⟨by decide, by decide⟩, ⟨by decide, by decide⟩⟩ rfl rfl (Nat.le_of_ble_eq_true rfl) dX5_readPiece_77) hW (fun x25 s26 H locs rx25 hp27 hW => ?_)
    obtain ⟨fs26, hp27⟩ := hp27
    have hF28 := hF23.call fs26 (fun k h => by omega)
    have ghp27 := hp27.2
    refine x_if_eq (tgt := 87) hx hb rx25 dX5_readPiece_80 (by decide) (fun c29 => ?_) (fun c29 => ?_)
    · skip
      refine x_iconst hx hb dX5_readPiece_87 ?_
      rw [eQ]
      exact x_zret hx hb hr hlk hW (by omega) ⟨hF28, ⟨hp27.1.1, (hp27.1.2.1.trans (hp22.1.2.1.trans q8)), trivial⟩, by omega⟩ dX5_readPiece_88
    refine x_iconst hx hb dX5_readPiece_83 ?_
    refine lv_goto (tgt := 88) hx hb dX5_readPiece_84 (by decide) ?_
    rw [eQ]
    exact x_zret hx hb hr hlk hW (by omega) ⟨hF28, ⟨hp27.1.1, (hp27.1.2.1.trans (hp22.1.2.1.trans q8)), trivial⟩, by omega⟩ dX5_readPiece_88
  refine x_icmp_eq (tgt := 20) hx hb rx1 (by decide) dX5_readPiece_11 (by decide) (fun c30 => ?_) (fun c30 => ?_)
  · skip
    exact J20 ls (by omega)  (lv_sub hl [1, 2, 0] rfl)
  refine x_iload_n hx hb hl 0 rfl dX5_readPiece_14 rfl ?_
  refine x_bipush hx hb dX5_readPiece_15 (by decide) ?_
  refine x_icmp_ne (tgt := 109) hx hb rx1 (by decide) dX5_readPiece_17 (by decide) (fun c31 => ?_) (fun c31 => ?_)
  · skip
    refine x_aload_n hx hb hl 1 rfl dX5_readPiece_109 rfl ?_
    refine x_iload_n hx hb hl 2 rfl dX5_readPiece_110 rfl ?_
    refine x_goi (x_runV (As := [.int (xJ q)]) hx hb hml hown hT hE hW hl.1 (Or.inl (by decide)) (so_117 h0 g _) rfl cf_X5_readSum wq652 wq16 wq650 (c_X5_readSumL5 l D g T h0 s0 hW.2.1 q rq (by omega) p0) ⟨rfl, rfl, ⟨by decide, by decide⟩, ⟨by decide, by decide⟩⟩ rfl rfl (Nat.le_of_ble_eq_true rfl) dX5_readPiece_111) hW (fun x32 s33 H locs rx32 hp34 hW => ?_)
    obtain ⟨fs33, hp34⟩ := hp34
    have hF35 := hF.call fs33 (fun k h => by omega)
    have ghp34 := hp34.2
    refine x_if_ne (tgt := 119) hx hb rx32 dX5_readPiece_114 (by decide) (fun c36 => ?_) (fun c36 => ?_)
    · skip
      refine x_aload_n hx hb hl 1 rfl dX5_readPiece_119 rfl ?_
      refine x_get (j := 0) (v := .ref (h0 + 1)) hx hb hown hT hE hW cls_X5 (Or.inl (by decide)) (so_117 h0 g _) (by decide) rfl wq293 dX5_readPiece_120 ?_
      refine x_goi (x_runVN (As := []) hx hb hml hown hT hE hW hl.1 (Or.inl (by decide)) (so_1 h0 g _) rfl cf_X8_sign wq581 wq4 wn641 (c_X8_sign l D g T h0 s33 hW.2.1 hp34.1.1) ⟨rfl, rfl, ⟨by decide, by decide⟩, ⟨by decide, by decide⟩⟩ rfl rfl (Nat.le_of_ble_eq_true rfl) dX5_readPiece_123) hW (fun x37 s38 H locs rx37 hp39 hW => ?_)
      obtain ⟨es38, hp39⟩ := hp39
      subst es38
      have ghp39 := hp39
      refine lv_istore_n (lv' := [(3, .int (xJ x37)), (2, .int (xJ x1)), (0, .ref (h0 + 117)), (1, .int (xJ q))]) hx hb dX5_readPiece_126 rfl hl (by decide) rfl (fun ls hl => ?_)
      refine x_iload_n hx hb hl 0 rfl dX5_readPiece_127 rfl ?_
      refine x_bipush hx hb dX5_readPiece_128 (by decide) ?_
      have J161 : ∀ (ls : Array Slot), (x37 ≠ -1) → lv_has ls 5 [(0, .ref (h0 + 117)), (1, .int (xJ q)), (3, .int (xJ x37))] → W p l e { frames := 9, cells := 0, slots := 0, locals := 201 } s m args below meth c H locs 0 0 Q (F0 m 161 ls []) := by
        intro ls v161_0  hl
        refine x_aload_n hx hb hl 0 rfl dX5_readPiece_161 rfl ?_
        refine x_get (j := 0) (v := .ref (h0 + 1)) hx hb hown hT hE hW cls_X5 (Or.inl (by decide)) (so_117 h0 g _) (by decide) rfl wq293 dX5_readPiece_162 ?_
        refine lv_dup hx hb dX5_readPiece_165 rfl ?_
        refine x_getN (j := 3) (v := .int (xJ (s33 1 3))) hx hb hown hT hE hW cls_X8 (Or.inl (by decide)) (so_1 h0 g _) (by decide) rfl wn201 dX5_readPiece_166 ?_
        refine x_rd hW (fun x40 ex40 rx40 => ?_)
        refine x_iconst hx hb dX5_readPiece_169 ?_
        refine x_iadd hx hb dX5_readPiece_170 ?_
        refine x_putN (j := 3) hx hb hown hT hE hW cls_X8 (by decide) (fun σ => so_1 h0 g σ) (by decide) (st_X8_3 h0 s33 1 (x40 + 1)) (ln_X8_3 h0 _ _) wn201 rfl rfl rfl (by omega) dX5_readPiece_171 (fun H locs s41 es41 hW => ?_)
        have q42 : IC s41 := by rw [es41]; exact IC_1 hp34.1.1 (by omega)
        have q43 : s41 1 1 = s0 1 1 := (show s41 1 1 = s33 1 1 from by rw [es41, xU_j _ _ (by decide)]).trans (hp34.1.2.1.trans k1_1)
        have hF44 := hF35.put es41 (by omega)
        refine x_aload_n hx hb hl 0 rfl dX5_readPiece_174 rfl ?_
        refine x_iload_n hx hb hl 1 rfl dX5_readPiece_175 rfl ?_
        refine x_goi (x_runV (As := [.int (xJ q)]) hx hb hml hown hT hE hW hl.1 (Or.inl (by decide)) (so_117 h0 g _) rfl cf_X5_readSum wq652 wq16 wq650 (c_X5_readSumL5 l D g T h0 s41 hW.2.1 q rq (by omega) q42) ⟨rfl, rfl, ⟨by decide, by decide⟩, ⟨by decide, by decide⟩⟩ rfl rfl (Nat.le_of_ble_eq_true rfl) dX5_readPiece_176) hW (fun x45 s46 H locs rx45 hp47 hW => ?_)
        obtain ⟨fs46, hp47⟩ := hp47
        have hF48 := hF44.call fs46 (fun k h => by omega)
        have ghp47 := hp47.2
        refine lv_istore (lv' := [(4, .int (xJ x45)), (0, .ref (h0 + 117)), (1, .int (xJ q)), (3, .int (xJ x37))]) hx hb dX5_readPiece_179 hl (by decide) rfl (fun ls hl => ?_)
        refine x_aload_n hx hb hl 1 rfl dX5_readPiece_181 rfl ?_
        refine x_get (j := 1) (v := .ref (h0 + 118)) hx hb hown hT hE hW cls_X5 (Or.inl (by decide)) (so_117 h0 g _) (by decide) rfl wq294 dX5_readPiece_182 ?_
        refine x_iload_n hx hb hl 3 rfl dX5_readPiece_185 rfl ?_
        refine x_iconst hx hb dX5_readPiece_186 ?_
        refine x_goi (x_runVN (As := [.int (xJ x37), .int (xJ 0)]) hx hb hml hown hT hE hW hl.1 (Or.inl (by decide)) (so_118 h0 g _) rfl cf_X4_put wq672 wq21 wn670 (c_X4_put l D g T h0 s46 hW.2.1 x37 rx37 0 (by decide) hp47.1.1) ⟨rfl, rfl, ⟨by decide, by decide⟩, ⟨by decide, by decide⟩⟩ rfl rfl (Nat.le_of_ble_eq_true rfl) dX5_readPiece_187) hW (fun x49 s50 H locs rx49 hp51 hW => ?_)
        obtain ⟨fs50, hp51⟩ := hp51
        have hF52 := hF48.call fs50 (fun k h => by omega)
        have q53 : s50 1 1 = s0 1 1 := (congrFun (fs50 _ (by omega)) _).trans (hp47.1.2.1.trans q43)
        have ghp51 := hp51.2
        refine lv_pop hx hb dX5_readPiece_190 rfl ?_
        refine x_iload hx hb hl 0 rfl dX5_readPiece_191 ?_
        rw [eQ]
        exact x_zret hx hb hr hlk hW (by omega) ⟨hF52, ⟨hp51.1.1, q53, trivial⟩, by omega⟩ dX5_readPiece_193
      refine x_icmp_eq (tgt := 161) hx hb rx37 (by decide) dX5_readPiece_130 (by decide) (fun c54 => ?_) (fun c54 => ?_)
      · skip
        exact J161 ls (by omega)  (lv_sub hl [2, 3, 0] rfl)
      refine x_iload_n hx hb hl 0 rfl dX5_readPiece_133 rfl ?_
      refine x_bipush hx hb dX5_readPiece_134 (by decide) ?_
      refine x_icmp_eq (tgt := 161) hx hb rx37 (by decide) dX5_readPiece_136 (by decide) (fun c55 => ?_) (fun c55 => ?_)
      · skip
        exact J161 ls (by omega)  (lv_sub hl [2, 3, 0] rfl)
      refine x_iload_n hx hb hl 0 rfl dX5_readPiece_139 rfl ?_
      refine x_bipush hx hb dX5_readPiece_140 (by decide) ?_
      refine x_icmp_eq (tgt := 161) hx hb rx37 (by decide) dX5_readPiece_142 (by decide) (fun c56 => ?_) (fun c56 => ?_)
      · skip
        exact J161 ls (by omega)  (lv_sub hl [2, 3, 0] rfl)
      refine x_aload_n hx hb hl 2 rfl dX5_readPiece_145 rfl ?_
      refine x_get (j := 0) (v := .ref (h0 + 1)) hx hb hown hT hE hW cls_X5 (Or.inl (by decide)) (so_117 h0 g _) (by decide) rfl wq293 dX5_readPiece_146 ?_
      refine x_iconst hx hb dX5_readPiece_149 ?_
      refine x_aload_n hx hb hl 2 rfl dX5_readPiece_150 rfl ?_
      refine x_get (j := 0) (v := .ref (h0 + 1)) hx hb hown hT hE hW cls_X5 (Or.inl (by decide)) (so_117 h0 g _) (by decide) rfl wq293 dX5_readPiece_151 ?_
      refine x_getN (j := 3) (v := .int (xJ (s33 1 3))) hx hb hown hT hE hW cls_X8 (Or.inl (by decide)) (so_1 h0 g _) (by decide) rfl wn201 dX5_readPiece_154 ?_
      refine x_rd hW (fun x57 ex57 rx57 => ?_)
      refine x_goi (x_runVN (As := [.int (xJ 1), .int (xJ x57)]) hx hb hml hown hT hE hW hl.1 (Or.inl (by decide)) (so_1 h0 g _) rfl cf_X8_fails wq588 wq5 wn645 (c_X8_fails l D g T h0 s33 hW.2.1 1 (by decide) x57 rx57 hp34.1.1) ⟨rfl, rfl, ⟨by decide, by decide⟩, ⟨by decide, by decide⟩⟩ rfl rfl (Nat.le_of_ble_eq_true rfl) dX5_readPiece_157) hW (fun x58 s59 H locs rx58 hp60 hW => ?_)
      obtain ⟨fs59, hp60⟩ := hp60
      have hF61 := hF35.call fs59 (fun k h => by omega)
      have ghp60 := hp60.2
      rw [eQ]
      exact x_zret hx hb hr hlk hW (by omega) ⟨hF61, ⟨hp60.1.1, (hp60.1.2.1.trans (hp34.1.2.1.trans k1_1)), trivial⟩, by omega⟩ dX5_readPiece_160
    refine x_iconst hx hb dX5_readPiece_117 ?_
    rw [eQ]
    exact x_zret hx hb hr hlk hW (by omega) ⟨hF35, ⟨hp34.1.1, (hp34.1.2.1.trans k1_1), trivial⟩, by omega⟩ dX5_readPiece_118
  exact J20 ls (by omega)  (lv_sub hl [1, 2, 0] rfl)
set_option maxHeartbeats 4000000 in
set_option maxRecDepth 100000 in
theorem c_X5_readPiecesL5 (l : Launch) (D : va_G) (g : xG) (T : Nat × Nat × Nat) (h0 : Nat) (s0 : xS) (hσ : xRR s0) (q : Int) (rq : xR q) (hq : q = 5) (p0 : IC s0) : Met l yX5_readPieces (xws yX5_readPieces cX5_readPieces 4 (some .boolean)) { frames := 10, cells := 0, slots := 0, locals := 225 } (xP [.ref (h0 + 117), .int (xJ q)] D g T h0 s0) (xQi D g h0 (fun r τ => xFr (fun k => k = 1 ∨ k = 118 ∨ k = 119 ∨ k = 120) s0 τ ∧ (((IC τ) ∧ (τ 1 1 = s0 1 1) ∧ True) ∧ (r = 0 ∨ r = 1)))) 0 0 (xA h0) := by
  refine x_met hσ (by decide) (Nat.le_of_ble_eq_true rfl) ?_
  intro p e s m args below meth c hx hb hr hml hown hT hlk hnm hE hW ls hl
  have hl : lv_has ls 4 [(0, .ref (h0 + 117)), (1, .int (xJ q))] := hl
  obtain ⟨Q, eQ⟩ : ∃ Q, Q = MQ below (xQi D g h0 (fun r τ => xFr (fun k => k = 1 ∨ k = 118 ∨ k = 119 ∨ k = 120) s0 τ ∧ (((IC τ) ∧ (τ 1 1 = s0 1 1) ∧ True) ∧ (r = 0 ∨ r = 1)))) args s 0 0 (xA h0) := ⟨_, rfl⟩
  rw [← eQ]
  generalize hHe : ([] : List Loc) = locs at hW ⊢
  obtain ⟨H, eH⟩ : ∃ H, H = s.heap := ⟨_, rfl⟩
  rw [← eH] at hW ⊢
  have hF : xFr (fun k => k = 1 ∨ k = 118 ∨ k = 119 ∨ k = 120) s0 s0 := xFr.rf
  have k1_1 : s0 1 1 = s0 1 1 := rfl
  refine x_aload_n hx hb hl 0 rfl dX5_readPieces_0 rfl ?_
  refine x_iload_n hx hb hl 1 rfl dX5_readPieces_1 rfl ?_
  refine x_goi (x_runV (As := [.int (xJ q)]) hx hb hml hown hT hE hW hl.1 (Or.inl (by decide)) (so_117 h0 g _) rfl cf_X5_readPiece wq688 wq24 wq686 (c_X5_readPieceL5 l D g T h0 s0 hW.2.1 q rq (by omega) p0) ⟨rfl, rfl, ⟨by decide, by decide⟩, ⟨by decide, by decide⟩⟩ rfl rfl (Nat.le_of_ble_eq_true rfl) dX5_readPieces_2) hW (fun x1 s2 H locs rx1 hp3 hW => ?_)
  obtain ⟨fs2, hp3⟩ := hp3
  have hF4 := hF.call fs2 (fun k h => by omega)
  have ghp3 := hp3.2
  refine x_if_ne (tgt := 10) hx hb rx1 dX5_readPieces_5 (by decide) (fun c5 => ?_) (fun c5 => ?_)
  · skip
    refine x_iconst hx hb dX5_readPieces_10 ?_
    refine lv_istore_n (lv' := [(2, .int (xJ 0)), (0, .ref (h0 + 117)), (1, .int (xJ q))]) hx hb dX5_readPieces_11 rfl hl (by decide) rfl (fun ls hl => ?_)
    have L12 : ∀ (fu : Nat) (i2_12 : Int) (s_12 : xS) (H : Heap) (locs : List Loc) (ls : Array Slot), (xR i2_12) → (xFr (fun k => k = 1 ∨ k = 118 ∨ k = 119 ∨ k = 120) s0 s_12) → (IC s_12) → (s_12 1 1 = s0 1 1) → (0 ≤ i2_12) → (i2_12 ≤ 300) → (300 + 1 - i2_12).toNat < fu → xW D g h0 s H locs s_12 → lv_has ls 4 [(0, .ref (h0 + 117)), (1, .int (xJ q)), (2, .int (xJ i2_12))] → W p l e { frames := 10, cells := 0, slots := 0, locals := 225 } s m args below meth c H locs 0 0 Q (F0 m 12 ls []) := by
      intro fu
      induction fu with
      | zero => intro i2_12 s_12 H locs ls ri2_12 hF_12 q12_0 q12_1 v12_0 v12_1 hm; exact absurd hm (Nat.not_lt_zero _)
      | succ fu ih12 =>
        intro i2_12 s_12 H locs ls ri2_12 hF_12 q12_0 q12_1 v12_0 v12_1 hm hW hl
        refine x_iload_n hx hb hl 2 rfl dX5_readPieces_12 rfl ?_
        refine x_sipush hx hb dX5_readPieces_13 (by decide) ?_
        refine x_icmp_ge (tgt := 78) hx hb ri2_12 (by decide) dX5_readPieces_16 (by decide) (fun c6 => ?_) (fun c6 => ?_)
        · skip
          refine x_iconst hx hb dX5_readPieces_78 ?_
          rw [eQ]
          exact x_zret hx hb hr hlk hW (by omega) ⟨hF_12, ⟨q12_0, q12_1, trivial⟩, by omega⟩ dX5_readPieces_79
        refine x_aload_n hx hb hl 0 rfl dX5_readPieces_19 rfl ?_
        refine x_get (j := 0) (v := .ref (h0 + 1)) hx hb hown hT hE hW cls_X5 (Or.inl (by decide)) (so_117 h0 g _) (by decide) rfl wq293 dX5_readPieces_20 ?_
        refine x_goi (x_runVN (As := []) hx hb hml hown hT hE hW hl.1 (Or.inl (by decide)) (so_1 h0 g _) rfl cf_X8_sign wq581 wq4 wn641 (c_X8_sign l D g T h0 s_12 hW.2.1 q12_0) ⟨rfl, rfl, ⟨by decide, by decide⟩, ⟨by decide, by decide⟩⟩ rfl rfl (Nat.le_of_ble_eq_true rfl) dX5_readPieces_23) hW (fun x7 s8 H locs rx7 hp9 hW => ?_)
        obtain ⟨es8, hp9⟩ := hp9
        subst es8
        have ghp9 := hp9
        refine x_bipush hx hb dX5_readPieces_26 (by decide) ?_
        refine x_icmp_ne (tgt := 78) hx hb rx7 (by decide) dX5_readPieces_28 (by decide) (fun c10 => ?_) (fun c10 => ?_)
        · skip
          refine x_iconst hx hb dX5_readPieces_78 ?_
          rw [eQ]
          exact x_zret hx hb hr hlk hW (by omega) ⟨hF_12, ⟨q12_0, q12_1, trivial⟩, by omega⟩ dX5_readPieces_79
        refine x_aload_n hx hb hl 0 rfl dX5_readPieces_31 rfl ?_
        refine x_get (j := 0) (v := .ref (h0 + 1)) hx hb hown hT hE hW cls_X5 (Or.inl (by decide)) (so_117 h0 g _) (by decide) rfl wq293 dX5_readPieces_32 ?_
        refine lv_dup hx hb dX5_readPieces_35 rfl ?_
        refine x_getN (j := 3) (v := .int (xJ (s_12 1 3))) hx hb hown hT hE hW cls_X8 (Or.inl (by decide)) (so_1 h0 g _) (by decide) rfl wn201 dX5_readPieces_36 ?_
        refine x_rd hW (fun x11 ex11 rx11 => ?_)
        refine x_iconst hx hb dX5_readPieces_39 ?_
        refine x_iadd hx hb dX5_readPieces_40 ?_
        refine x_putN (j := 3) hx hb hown hT hE hW cls_X8 (by decide) (fun σ => so_1 h0 g σ) (by decide) (st_X8_3 h0 s_12 1 (x11 + 1)) (ln_X8_3 h0 _ _) wn201 rfl rfl rfl (by omega) dX5_readPieces_41 (fun H locs s12 es12 hW => ?_)
        have q13 : IC s12 := by rw [es12]; exact IC_1 q12_0 (by omega)
        have q14 : s12 1 1 = s0 1 1 := (show s12 1 1 = s_12 1 1 from by rw [es12, xU_j _ _ (by decide)]).trans q12_1
        have hF15 := hF_12.put es12 (by omega)
        refine x_aload_n hx hb hl 0 rfl dX5_readPieces_44 rfl ?_
        refine x_get (j := 1) (v := .ref (h0 + 118)) hx hb hown hT hE hW cls_X5 (Or.inl (by decide)) (so_117 h0 g _) (by decide) rfl wq294 dX5_readPieces_45 ?_
        refine x_iconst hx hb dX5_readPieces_48 ?_
        refine x_iconst hx hb dX5_readPieces_49 ?_
        refine x_goi (x_runVN (As := [.int (xJ 4), .int (xJ 0)]) hx hb hml hown hT hE hW hl.1 (Or.inl (by decide)) (so_118 h0 g _) rfl cf_X4_put wq672 wq21 wn670 (c_X4_put l D g T h0 s12 hW.2.1 4 (by decide) 0 (by decide) q13) ⟨rfl, rfl, ⟨by decide, by decide⟩, ⟨by decide, by decide⟩⟩ rfl rfl (Nat.le_of_ble_eq_true rfl) dX5_readPieces_50) hW (fun x16 s17 H locs rx16 hp18 hW => ?_)
        obtain ⟨fs17, hp18⟩ := hp18
        have hF19 := hF15.call fs17 (fun k h => by omega)
        have q20 : s17 1 1 = s0 1 1 := (congrFun (fs17 _ (by omega)) _).trans q14
        have ghp18 := hp18.2
        refine lv_istore_n (lv' := [(3, .int (xJ x16)), (0, .ref (h0 + 117)), (1, .int (xJ q)), (2, .int (xJ i2_12))]) hx hb dX5_readPieces_53 rfl hl (by decide) rfl (fun ls hl => ?_)
        refine x_aload_n hx hb hl 1 rfl dX5_readPieces_54 rfl ?_
        refine x_iload_n hx hb hl 2 rfl dX5_readPieces_55 rfl ?_
        refine x_goi (x_runV (As := [.int (xJ q)]) hx hb hml hown hT hE hW hl.1 (Or.inl (by decide)) (so_117 h0 g _) rfl cf_X5_readPiece wq688 wq24 wq686 (c_X5_readPieceL5 l D g T h0 s17 hW.2.1 q rq (by omega) hp18.1.1) ⟨rfl, rfl, ⟨by decide, by decide⟩, ⟨by decide, by decide⟩⟩ rfl rfl (Nat.le_of_ble_eq_true rfl) dX5_readPieces_56) hW (fun x21 s22 H locs rx21 hp23 hW => ?_)
        obtain ⟨fs22, hp23⟩ := hp23
        have hF24 := hF19.call fs22 (fun k h => by omega)
        have ghp23 := hp23.2
        refine x_if_ne (tgt := 64) hx hb rx21 dX5_readPieces_59 (by decide) (fun c25 => ?_) (fun c25 => ?_)
        · skip
          refine x_aload_n hx hb hl 1 rfl dX5_readPieces_64 rfl ?_
          refine x_get (j := 1) (v := .ref (h0 + 118)) hx hb hown hT hE hW cls_X5 (Or.inl (by decide)) (so_117 h0 g _) (by decide) rfl wq294 dX5_readPieces_65 ?_
          refine x_iload_n hx hb hl 0 rfl dX5_readPieces_68 rfl ?_
          refine x_gov (x_runVN (As := [.int (xJ x16)]) hx hb hml hown hT hE hW hl.1 (Or.inl (by decide)) (so_118 h0 g _) rfl cf_X4_landSkip wq692 wq25 wn690 (c_X4_landSkip l D g T h0 s22 hW.2.1 x16 rx16 hp23.1.1) ⟨rfl, rfl, ⟨by decide, by decide⟩, ⟨by decide, by decide⟩⟩ rfl rfl (Nat.le_of_ble_eq_true rfl) dX5_readPieces_69) hW (fun s27 H locs hp28 hW => ?_)
          obtain ⟨fs27, hp28⟩ := hp28
          have hF29 := hF24.call fs27 (fun k h => by omega)
          have q30 : s27 1 1 = s0 1 1 := (congrFun (fs27 _ (by omega)) _).trans (hp23.1.2.1.trans q20)
          have ghp28 := hp28.2
          refine x_iinc (lv' := [(2, .int (xJ (i2_12 + 1))), (3, .int (xJ x16)), (0, .ref (h0 + 117)), (1, .int (xJ q))]) hx hb hl 3 rfl dX5_readPieces_72 (by decide) rfl (fun ls hl => ?_)
          refine lv_goto (tgt := 12) hx hb dX5_readPieces_75 (by decide) ?_
          exact ih12 (i2_12 + 1) s27 H locs ls (by omega) hF29 hp28.1.1 q30 (by omega) (by omega) (by omega) hW (lv_sub hl [2, 3, 0] rfl)
        refine x_iconst hx hb dX5_readPieces_62 ?_
        rw [eQ]
        exact x_zret hx hb hr hlk hW (by omega) ⟨hF24, ⟨hp23.1.1, (hp23.1.2.1.trans q20), trivial⟩, by omega⟩ dX5_readPieces_63
    exact L12 ((300 + 1 - 0 : Int).toNat + 1) 0 s2 H locs ls (by decide) hF4 hp3.1.1 (hp3.1.2.1.trans k1_1) (by omega) (by omega) (Nat.lt_succ_self _) hW (lv_sub hl [1, 2, 0] rfl)
  refine x_iconst hx hb dX5_readPieces_8 ?_
  rw [eQ]
  exact x_zret hx hb hr hlk hW (by omega) ⟨hF4, ⟨hp3.1.1, (hp3.1.2.1.trans k1_1), trivial⟩, by omega⟩ dX5_readPieces_9
set_option maxHeartbeats 4000000 in
set_option maxRecDepth 100000 in
theorem c_X5_readPartsL5 (l : Launch) (D : va_G) (g : xG) (T : Nat × Nat × Nat) (h0 : Nat) (s0 : xS) (hσ : xRR s0) (q : Int) (rq : xR q) (hq : q = 5) (p0 : IC s0) : Met l yX5_readParts (xws yX5_readParts cX5_readParts 4 (some .boolean)) { frames := 11, cells := 0, slots := 0, locals := 248 } (xP [.ref (h0 + 117), .int (xJ q)] D g T h0 s0) (xQi D g h0 (fun r τ => xFr (fun k => k = 1 ∨ k = 118 ∨ k = 119 ∨ k = 120) s0 τ ∧ (((IC τ) ∧ (τ 1 1 = s0 1 1) ∧ True) ∧ (r = 0 ∨ r = 1)))) 0 0 (xA h0) := by
  refine x_met hσ (by decide) (Nat.le_of_ble_eq_true rfl) ?_
  intro p e s m args below meth c hx hb hr hml hown hT hlk hnm hE hW ls hl
  have hl : lv_has ls 4 [(0, .ref (h0 + 117)), (1, .int (xJ q))] := hl
  obtain ⟨Q, eQ⟩ : ∃ Q, Q = MQ below (xQi D g h0 (fun r τ => xFr (fun k => k = 1 ∨ k = 118 ∨ k = 119 ∨ k = 120) s0 τ ∧ (((IC τ) ∧ (τ 1 1 = s0 1 1) ∧ True) ∧ (r = 0 ∨ r = 1)))) args s 0 0 (xA h0) := ⟨_, rfl⟩
  rw [← eQ]
  generalize hHe : ([] : List Loc) = locs at hW ⊢
  obtain ⟨H, eH⟩ : ∃ H, H = s.heap := ⟨_, rfl⟩
  rw [← eH] at hW ⊢
  have hF : xFr (fun k => k = 1 ∨ k = 118 ∨ k = 119 ∨ k = 120) s0 s0 := xFr.rf
  have k1_1 : s0 1 1 = s0 1 1 := rfl
  refine x_aload_n hx hb hl 0 rfl dX5_readParts_0 rfl ?_
  refine x_iload_n hx hb hl 1 rfl dX5_readParts_1 rfl ?_
  refine x_goi (x_runV (As := [.int (xJ q)]) hx hb hml hown hT hE hW hl.1 (Or.inl (by decide)) (so_117 h0 g _) rfl cf_X5_readPieces wq684 wq23 wq682 (c_X5_readPiecesL5 l D g T h0 s0 hW.2.1 q rq (by omega) p0) ⟨rfl, rfl, ⟨by decide, by decide⟩, ⟨by decide, by decide⟩⟩ rfl rfl (Nat.le_of_ble_eq_true rfl) dX5_readParts_2) hW (fun x1 s2 H locs rx1 hp3 hW => ?_)
  obtain ⟨fs2, hp3⟩ := hp3
  have hF4 := hF.call fs2 (fun k h => by omega)
  have ghp3 := hp3.2
  refine x_if_ne (tgt := 10) hx hb rx1 dX5_readParts_5 (by decide) (fun c5 => ?_) (fun c5 => ?_)
  · skip
    refine x_iconst hx hb dX5_readParts_10 ?_
    refine lv_istore_n (lv' := [(2, .int (xJ 0)), (0, .ref (h0 + 117)), (1, .int (xJ q))]) hx hb dX5_readParts_11 rfl hl (by decide) rfl (fun ls hl => ?_)
    have L12 : ∀ (fu : Nat) (i2_12 : Int) (s_12 : xS) (H : Heap) (locs : List Loc) (ls : Array Slot), (xR i2_12) → (xFr (fun k => k = 1 ∨ k = 118 ∨ k = 119 ∨ k = 120) s0 s_12) → (IC s_12) → (s_12 1 1 = s0 1 1) → (0 ≤ i2_12) → (i2_12 ≤ 300) → (300 + 1 - i2_12).toNat < fu → xW D g h0 s H locs s_12 → lv_has ls 4 [(0, .ref (h0 + 117)), (1, .int (xJ q)), (2, .int (xJ i2_12))] → W p l e { frames := 11, cells := 0, slots := 0, locals := 248 } s m args below meth c H locs 0 0 Q (F0 m 12 ls []) := by
      intro fu
      induction fu with
      | zero => intro i2_12 s_12 H locs ls ri2_12 hF_12 q12_0 q12_1 v12_0 v12_1 hm; exact absurd hm (Nat.not_lt_zero _)
      | succ fu ih12 =>
        intro i2_12 s_12 H locs ls ri2_12 hF_12 q12_0 q12_1 v12_0 v12_1 hm hW hl
        refine x_iload_n hx hb hl 2 rfl dX5_readParts_12 rfl ?_
        refine x_sipush hx hb dX5_readParts_13 (by decide) ?_
        refine x_icmp_ge (tgt := 78) hx hb ri2_12 (by decide) dX5_readParts_16 (by decide) (fun c6 => ?_) (fun c6 => ?_)
        · skip
          refine x_iconst hx hb dX5_readParts_78 ?_
          rw [eQ]
          exact x_zret hx hb hr hlk hW (by omega) ⟨hF_12, ⟨q12_0, q12_1, trivial⟩, by omega⟩ dX5_readParts_79
        refine x_aload_n hx hb hl 0 rfl dX5_readParts_19 rfl ?_
        refine x_get (j := 0) (v := .ref (h0 + 1)) hx hb hown hT hE hW cls_X5 (Or.inl (by decide)) (so_117 h0 g _) (by decide) rfl wq293 dX5_readParts_20 ?_
        refine x_goi (x_runVN (As := []) hx hb hml hown hT hE hW hl.1 (Or.inl (by decide)) (so_1 h0 g _) rfl cf_X8_sign wq581 wq4 wn641 (c_X8_sign l D g T h0 s_12 hW.2.1 q12_0) ⟨rfl, rfl, ⟨by decide, by decide⟩, ⟨by decide, by decide⟩⟩ rfl rfl (Nat.le_of_ble_eq_true rfl) dX5_readParts_23) hW (fun x7 s8 H locs rx7 hp9 hW => ?_)
        obtain ⟨es8, hp9⟩ := hp9
        subst es8
        have ghp9 := hp9
        refine x_bipush hx hb dX5_readParts_26 (by decide) ?_
        refine x_icmp_ne (tgt := 78) hx hb rx7 (by decide) dX5_readParts_28 (by decide) (fun c10 => ?_) (fun c10 => ?_)
        · skip
          refine x_iconst hx hb dX5_readParts_78 ?_
          rw [eQ]
          exact x_zret hx hb hr hlk hW (by omega) ⟨hF_12, ⟨q12_0, q12_1, trivial⟩, by omega⟩ dX5_readParts_79
        refine x_aload_n hx hb hl 0 rfl dX5_readParts_31 rfl ?_
        refine x_get (j := 0) (v := .ref (h0 + 1)) hx hb hown hT hE hW cls_X5 (Or.inl (by decide)) (so_117 h0 g _) (by decide) rfl wq293 dX5_readParts_32 ?_
        refine lv_dup hx hb dX5_readParts_35 rfl ?_
        refine x_getN (j := 3) (v := .int (xJ (s_12 1 3))) hx hb hown hT hE hW cls_X8 (Or.inl (by decide)) (so_1 h0 g _) (by decide) rfl wn201 dX5_readParts_36 ?_
        refine x_rd hW (fun x11 ex11 rx11 => ?_)
        refine x_iconst hx hb dX5_readParts_39 ?_
        refine x_iadd hx hb dX5_readParts_40 ?_
        refine x_putN (j := 3) hx hb hown hT hE hW cls_X8 (by decide) (fun σ => so_1 h0 g σ) (by decide) (st_X8_3 h0 s_12 1 (x11 + 1)) (ln_X8_3 h0 _ _) wn201 rfl rfl rfl (by omega) dX5_readParts_41 (fun H locs s12 es12 hW => ?_)
        have q13 : IC s12 := by rw [es12]; exact IC_1 q12_0 (by omega)
        have q14 : s12 1 1 = s0 1 1 := (show s12 1 1 = s_12 1 1 from by rw [es12, xU_j _ _ (by decide)]).trans q12_1
        have hF15 := hF_12.put es12 (by omega)
        refine x_aload_n hx hb hl 0 rfl dX5_readParts_44 rfl ?_
        refine x_get (j := 1) (v := .ref (h0 + 118)) hx hb hown hT hE hW cls_X5 (Or.inl (by decide)) (so_117 h0 g _) (by decide) rfl wq294 dX5_readParts_45 ?_
        refine x_iconst hx hb dX5_readParts_48 ?_
        refine x_iconst hx hb dX5_readParts_49 ?_
        refine x_goi (x_runVN (As := [.int (xJ 5), .int (xJ 0)]) hx hb hml hown hT hE hW hl.1 (Or.inl (by decide)) (so_118 h0 g _) rfl cf_X4_put wq672 wq21 wn670 (c_X4_put l D g T h0 s12 hW.2.1 5 (by decide) 0 (by decide) q13) ⟨rfl, rfl, ⟨by decide, by decide⟩, ⟨by decide, by decide⟩⟩ rfl rfl (Nat.le_of_ble_eq_true rfl) dX5_readParts_50) hW (fun x16 s17 H locs rx16 hp18 hW => ?_)
        obtain ⟨fs17, hp18⟩ := hp18
        have hF19 := hF15.call fs17 (fun k h => by omega)
        have q20 : s17 1 1 = s0 1 1 := (congrFun (fs17 _ (by omega)) _).trans q14
        have ghp18 := hp18.2
        refine lv_istore_n (lv' := [(3, .int (xJ x16)), (0, .ref (h0 + 117)), (1, .int (xJ q)), (2, .int (xJ i2_12))]) hx hb dX5_readParts_53 rfl hl (by decide) rfl (fun ls hl => ?_)
        refine x_aload_n hx hb hl 1 rfl dX5_readParts_54 rfl ?_
        refine x_iload_n hx hb hl 2 rfl dX5_readParts_55 rfl ?_
        refine x_goi (x_runV (As := [.int (xJ q)]) hx hb hml hown hT hE hW hl.1 (Or.inl (by decide)) (so_117 h0 g _) rfl cf_X5_readPieces wq684 wq23 wq682 (c_X5_readPiecesL5 l D g T h0 s17 hW.2.1 q rq (by omega) hp18.1.1) ⟨rfl, rfl, ⟨by decide, by decide⟩, ⟨by decide, by decide⟩⟩ rfl rfl (Nat.le_of_ble_eq_true rfl) dX5_readParts_56) hW (fun x21 s22 H locs rx21 hp23 hW => ?_)
        obtain ⟨fs22, hp23⟩ := hp23
        have hF24 := hF19.call fs22 (fun k h => by omega)
        have ghp23 := hp23.2
        refine x_if_ne (tgt := 64) hx hb rx21 dX5_readParts_59 (by decide) (fun c25 => ?_) (fun c25 => ?_)
        · skip
          refine x_aload_n hx hb hl 1 rfl dX5_readParts_64 rfl ?_
          refine x_get (j := 1) (v := .ref (h0 + 118)) hx hb hown hT hE hW cls_X5 (Or.inl (by decide)) (so_117 h0 g _) (by decide) rfl wq294 dX5_readParts_65 ?_
          refine x_iload_n hx hb hl 0 rfl dX5_readParts_68 rfl ?_
          refine x_gov (x_runVN (As := [.int (xJ x16)]) hx hb hml hown hT hE hW hl.1 (Or.inl (by decide)) (so_118 h0 g _) rfl cf_X4_landSkip wq692 wq25 wn690 (c_X4_landSkip l D g T h0 s22 hW.2.1 x16 rx16 hp23.1.1) ⟨rfl, rfl, ⟨by decide, by decide⟩, ⟨by decide, by decide⟩⟩ rfl rfl (Nat.le_of_ble_eq_true rfl) dX5_readParts_69) hW (fun s27 H locs hp28 hW => ?_)
          obtain ⟨fs27, hp28⟩ := hp28
          have hF29 := hF24.call fs27 (fun k h => by omega)
          have q30 : s27 1 1 = s0 1 1 := (congrFun (fs27 _ (by omega)) _).trans (hp23.1.2.1.trans q20)
          have ghp28 := hp28.2
          refine x_iinc (lv' := [(2, .int (xJ (i2_12 + 1))), (3, .int (xJ x16)), (0, .ref (h0 + 117)), (1, .int (xJ q))]) hx hb hl 3 rfl dX5_readParts_72 (by decide) rfl (fun ls hl => ?_)
          refine lv_goto (tgt := 12) hx hb dX5_readParts_75 (by decide) ?_
          exact ih12 (i2_12 + 1) s27 H locs ls (by omega) hF29 hp28.1.1 q30 (by omega) (by omega) (by omega) hW (lv_sub hl [2, 3, 0] rfl)
        refine x_iconst hx hb dX5_readParts_62 ?_
        rw [eQ]
        exact x_zret hx hb hr hlk hW (by omega) ⟨hF24, ⟨hp23.1.1, (hp23.1.2.1.trans q20), trivial⟩, by omega⟩ dX5_readParts_63
    exact L12 ((300 + 1 - 0 : Int).toNat + 1) 0 s2 H locs ls (by decide) hF4 hp3.1.1 (hp3.1.2.1.trans k1_1) (by omega) (by omega) (Nat.lt_succ_self _) hW (lv_sub hl [1, 2, 0] rfl)
  refine x_iconst hx hb dX5_readParts_8 ?_
  rw [eQ]
  exact x_zret hx hb hr hlk hW (by omega) ⟨hF4, ⟨hp3.1.1, (hp3.1.2.1.trans k1_1), trivial⟩, by omega⟩ dX5_readParts_9
set_option maxHeartbeats 4000000 in
set_option maxRecDepth 100000 in
theorem c_X5_readPieceL4 (l : Launch) (D : va_G) (g : xG) (T : Nat × Nat × Nat) (h0 : Nat) (s0 : xS) (hσ : xRR s0) (q : Int) (rq : xR q) (hq : q = 4) (p0 : IC s0) : Met l yX5_readPiece (xws yX5_readPiece cX5_readPiece 5 (some .boolean)) { frames := 12, cells := 0, slots := 0, locals := 271 } (xP [.ref (h0 + 117), .int (xJ q)] D g T h0 s0) (xQi D g h0 (fun r τ => xFr (fun k => k = 1 ∨ k = 118 ∨ k = 119 ∨ k = 120) s0 τ ∧ (((IC τ) ∧ (τ 1 1 = s0 1 1) ∧ True) ∧ (r = 0 ∨ r = 1)))) 0 0 (xA h0) := by
  refine x_met hσ (by decide) (Nat.le_of_ble_eq_true rfl) ?_
  intro p e s m args below meth c hx hb hr hml hown hT hlk hnm hE hW ls hl
  have hl : lv_has ls 5 [(0, .ref (h0 + 117)), (1, .int (xJ q))] := hl
  obtain ⟨Q, eQ⟩ : ∃ Q, Q = MQ below (xQi D g h0 (fun r τ => xFr (fun k => k = 1 ∨ k = 118 ∨ k = 119 ∨ k = 120) s0 τ ∧ (((IC τ) ∧ (τ 1 1 = s0 1 1) ∧ True) ∧ (r = 0 ∨ r = 1)))) args s 0 0 (xA h0) := ⟨_, rfl⟩
  rw [← eQ]
  generalize hHe : ([] : List Loc) = locs at hW ⊢
  obtain ⟨H, eH⟩ : ∃ H, H = s.heap := ⟨_, rfl⟩
  rw [← eH] at hW ⊢
  have hF : xFr (fun k => k = 1 ∨ k = 118 ∨ k = 119 ∨ k = 120) s0 s0 := xFr.rf
  have k1_1 : s0 1 1 = s0 1 1 := rfl
  refine x_aload_n hx hb hl 0 rfl dX5_readPiece_0 rfl ?_
  refine x_get (j := 0) (v := .ref (h0 + 1)) hx hb hown hT hE hW cls_X5 (Or.inl (by decide)) (so_117 h0 g _) (by decide) rfl wq293 dX5_readPiece_1 ?_
  refine x_goi (x_runVN (As := []) hx hb hml hown hT hE hW hl.1 (Or.inl (by decide)) (so_1 h0 g _) rfl cf_X8_sign wq581 wq4 wn641 (c_X8_sign l D g T h0 s0 hW.2.1 p0) ⟨rfl, rfl, ⟨by decide, by decide⟩, ⟨by decide, by decide⟩⟩ rfl rfl (Nat.le_of_ble_eq_true rfl) dX5_readPiece_4) hW (fun x1 s2 H locs rx1 hp3 hW => ?_)
  obtain ⟨es2, hp3⟩ := hp3
  subst es2
  have ghp3 := hp3
  refine lv_istore_n (lv' := [(2, .int (xJ x1)), (0, .ref (h0 + 117)), (1, .int (xJ q))]) hx hb dX5_readPiece_7 rfl hl (by decide) rfl (fun ls hl => ?_)
  refine x_iload_n hx hb hl 0 rfl dX5_readPiece_8 rfl ?_
  refine x_bipush hx hb dX5_readPiece_9 (by decide) ?_
  have J20 : ∀ (ls : Array Slot), (0 ≤ s0 1 3 ∧ s0 1 3 < 260) → lv_has ls 5 [(0, .ref (h0 + 117)), (1, .int (xJ q)), (2, .int (xJ x1))] → W p l e { frames := 12, cells := 0, slots := 0, locals := 271 } s m args below meth c H locs 0 0 Q (F0 m 20 ls []) := by
    intro ls v20_0  hl
    refine x_iload_n hx hb hl 1 rfl dX5_readPiece_20 rfl ?_
    refine x_bipush hx hb dX5_readPiece_21 (by decide) ?_
    refine x_icmp_lt (tgt := 42) hx hb rq (by decide) dX5_readPiece_23 (by decide) (fun c4 => ?_) (fun c4 => False.elim (by omega))
    refine x_aload_n hx hb hl 0 rfl dX5_readPiece_42 rfl ?_
    refine x_get (j := 0) (v := .ref (h0 + 1)) hx hb hown hT hE hW cls_X5 (Or.inl (by decide)) (so_117 h0 g _) (by decide) rfl wq293 dX5_readPiece_43 ?_
    refine lv_dup hx hb dX5_readPiece_46 rfl ?_
    refine x_getN (j := 3) (v := .int (xJ (s0 1 3))) hx hb hown hT hE hW cls_X8 (Or.inl (by decide)) (so_1 h0 g _) (by decide) rfl wn201 dX5_readPiece_47 ?_
    refine x_rd hW (fun x5 ex5 rx5 => ?_)
    refine x_iconst hx hb dX5_readPiece_50 ?_
    refine x_iadd hx hb dX5_readPiece_51 ?_
    refine x_putN (j := 3) hx hb hown hT hE hW cls_X8 (by decide) (fun σ => so_1 h0 g σ) (by decide) (st_X8_3 h0 s0 1 (x5 + 1)) (ln_X8_3 h0 _ _) wn201 rfl rfl rfl (by omega) dX5_readPiece_52 (fun H locs s6 es6 hW => ?_)
    have q7 : IC s6 := by rw [es6]; exact IC_1 p0 (by omega)
    have q8 : s6 1 1 = s0 1 1 := (show s6 1 1 = s0 1 1 from by rw [es6, xU_j _ _ (by decide)]).trans k1_1
    have hF9 := hF.put es6 (by omega)
    refine x_iload_n hx hb hl 2 rfl dX5_readPiece_55 rfl ?_
    refine x_bipush hx hb dX5_readPiece_56 (by decide) ?_
    refine x_icmp_ne (tgt := 89) hx hb rx1 (by decide) dX5_readPiece_58 (by decide) (fun c10 => ?_) (fun c10 => ?_)
    · skip
      refine x_aload_n hx hb hl 0 rfl dX5_readPiece_89 rfl ?_
      refine x_iload_n hx hb hl 1 rfl dX5_readPiece_90 rfl ?_
      refine x_iconst hx hb dX5_readPiece_91 ?_
      refine x_iadd hx hb dX5_readPiece_92 ?_
      refine x_goi (x_runV (As := [.int (xJ (q + 1))]) hx hb hml hown hT hE hW hl.1 (Or.inl (by decide)) (so_117 h0 g _) rfl cf_X5_readPiece wq688 wq24 wq686 (c_X5_readPieceL5 l D g T h0 s6 hW.2.1 (q + 1) (by omega) (by omega) q7) ⟨rfl, rfl, ⟨by decide, by decide⟩, ⟨by decide, by decide⟩⟩ rfl rfl (Nat.le_of_ble_eq_true rfl) dX5_readPiece_93) hW (fun x11 s12 H locs rx11 hp13 hW => ?_)
      obtain ⟨fs12, hp13⟩ := hp13
      have hF14 := hF9.call fs12 (fun k h => by omega)
      have ghp13 := hp13.2
      refine lv_istore_n (lv' := [(3, .int (xJ x11)), (0, .ref (h0 + 117)), (1, .int (xJ q)), (2, .int (xJ x1))]) hx hb dX5_readPiece_96 rfl hl (by decide) rfl (fun ls hl => ?_)
      refine x_aload_n hx hb hl 1 rfl dX5_readPiece_97 rfl ?_
      refine x_get (j := 1) (v := .ref (h0 + 118)) hx hb hown hT hE hW cls_X5 (Or.inl (by decide)) (so_117 h0 g _) (by decide) rfl wq294 dX5_readPiece_98 ?_
      refine x_iconst hx hb dX5_readPiece_101 ?_
      refine x_iconst hx hb dX5_readPiece_102 ?_
      refine x_goi (x_runVN (As := [.int (xJ 3), .int (xJ 0)]) hx hb hml hown hT hE hW hl.1 (Or.inl (by decide)) (so_118 h0 g _) rfl cf_X4_put wq672 wq21 wn670 (c_X4_put l D g T h0 s12 hW.2.1 3 (by decide) 0 (by decide) hp13.1.1) ⟨rfl, rfl, ⟨by decide, by decide⟩, ⟨by decide, by decide⟩⟩ rfl rfl (Nat.le_of_ble_eq_true rfl) dX5_readPiece_103) hW (fun x15 s16 H locs rx15 hp17 hW => ?_)
      obtain ⟨fs16, hp17⟩ := hp17
      have hF18 := hF14.call fs16 (fun k h => by omega)
      have q19 : s16 1 1 = s0 1 1 := (congrFun (fs16 _ (by omega)) _).trans (hp13.1.2.1.trans q8)
      have ghp17 := hp17.2
      refine lv_pop hx hb dX5_readPiece_106 rfl ?_
      refine x_iload_n hx hb hl 0 rfl dX5_readPiece_107 rfl ?_
      rw [eQ]
      exact x_zret hx hb hr hlk hW (by omega) ⟨hF18, ⟨hp17.1.1, q19, trivial⟩, by omega⟩ dX5_readPiece_108
    refine x_aload_n hx hb hl 0 rfl dX5_readPiece_61 rfl ?_
    refine x_iload_n hx hb hl 1 rfl dX5_readPiece_62 rfl ?_
    refine x_iconst hx hb dX5_readPiece_63 ?_
    refine x_iadd hx hb dX5_readPiece_64 ?_
    refine x_goi (x_runV (As := [.int (xJ (q + 1))]) hx hb hml hown hT hE hW hl.1 (Or.inl (by decide)) (so_117 h0 g _) rfl cf_X5_readParts wq680 wq22 wq678 (c_X5_readPartsL5 l D g T h0 s6 hW.2.1 (q + 1) (by omega) (by omega) q7) ⟨rfl, rfl, ⟨by decide, by decide⟩, ⟨by decide, by decide⟩⟩ rfl rfl (Nat.le_of_ble_eq_true rfl) dX5_readPiece_65) hW (fun x20 s21 H locs rx20 hp22 hW => ?_)
    obtain ⟨fs21, hp22⟩ := hp22
    have hF23 := hF9.call fs21 (fun k h => by omega)
    have ghp22 := hp22.2
    refine x_if_eq (tgt := 87) hx hb rx20 dX5_readPiece_68 (by decide) (fun c24 => ?_) (fun c24 => ?_)
    · skip
      refine x_iconst hx hb dX5_readPiece_87 ?_
      rw [eQ]
      exact x_zret hx hb hr hlk hW (by omega) ⟨hF23, ⟨hp22.1.1, (hp22.1.2.1.trans q8), trivial⟩, by omega⟩ dX5_readPiece_88
    refine x_aload_n hx hb hl 0 rfl dX5_readPiece_71 rfl ?_
    refine x_get (j := 0) (v := .ref (h0 + 1)) hx hb hown hT hE hW cls_X5 (Or.inl (by decide)) (so_117 h0 g _) (by decide) rfl wq293 dX5_readPiece_72 ?_
    refine x_bipush hx hb dX5_readPiece_75 (by decide) ?_
    refine x_goi (x_runVN (As := [.int (xJ 41)]) hx hb hml hown hT hE hW hl.1 (Or.inl (by decide)) (so_1 h0 g _) rfl cf_X8_passes wq598 wq6 wn674 (c_X8_passes l D g T h0 s21 hW.2.1 41 (by decide) hp22.1.1) ⟨rfl, rfl, ⟨by decide, by decide⟩, ⟨by decide, by decide⟩⟩ rfl rfl (Nat.le_of_ble_eq_true rfl) dX5_readPiece_77) hW (fun x25 s26 H locs rx25 hp27 hW => ?_)
    obtain ⟨fs26, hp27⟩ := hp27
    have hF28 := hF23.call fs26 (fun k h => by omega)
    have ghp27 := hp27.2
    refine x_if_eq (tgt := 87) hx hb rx25 dX5_readPiece_80 (by decide) (fun c29 => ?_) (fun c29 => ?_)
    · skip
      refine x_iconst hx hb dX5_readPiece_87 ?_
      rw [eQ]
      exact x_zret hx hb hr hlk hW (by omega) ⟨hF28, ⟨hp27.1.1, (hp27.1.2.1.trans (hp22.1.2.1.trans q8)), trivial⟩, by omega⟩ dX5_readPiece_88
    refine x_iconst hx hb dX5_readPiece_83 ?_
    refine lv_goto (tgt := 88) hx hb dX5_readPiece_84 (by decide) ?_
    rw [eQ]
    exact x_zret hx hb hr hlk hW (by omega) ⟨hF28, ⟨hp27.1.1, (hp27.1.2.1.trans (hp22.1.2.1.trans q8)), trivial⟩, by omega⟩ dX5_readPiece_88
  refine x_icmp_eq (tgt := 20) hx hb rx1 (by decide) dX5_readPiece_11 (by decide) (fun c30 => ?_) (fun c30 => ?_)
  · skip
    exact J20 ls (by omega)  (lv_sub hl [1, 2, 0] rfl)
  refine x_iload_n hx hb hl 0 rfl dX5_readPiece_14 rfl ?_
  refine x_bipush hx hb dX5_readPiece_15 (by decide) ?_
  refine x_icmp_ne (tgt := 109) hx hb rx1 (by decide) dX5_readPiece_17 (by decide) (fun c31 => ?_) (fun c31 => ?_)
  · skip
    refine x_aload_n hx hb hl 1 rfl dX5_readPiece_109 rfl ?_
    refine x_iload_n hx hb hl 2 rfl dX5_readPiece_110 rfl ?_
    refine x_goi (x_runV (As := [.int (xJ q)]) hx hb hml hown hT hE hW hl.1 (Or.inl (by decide)) (so_117 h0 g _) rfl cf_X5_readSum wq652 wq16 wq650 (c_X5_readSumL4 l D g T h0 s0 hW.2.1 q rq (by omega) p0) ⟨rfl, rfl, ⟨by decide, by decide⟩, ⟨by decide, by decide⟩⟩ rfl rfl (Nat.le_of_ble_eq_true rfl) dX5_readPiece_111) hW (fun x32 s33 H locs rx32 hp34 hW => ?_)
    obtain ⟨fs33, hp34⟩ := hp34
    have hF35 := hF.call fs33 (fun k h => by omega)
    have ghp34 := hp34.2
    refine x_if_ne (tgt := 119) hx hb rx32 dX5_readPiece_114 (by decide) (fun c36 => ?_) (fun c36 => ?_)
    · skip
      refine x_aload_n hx hb hl 1 rfl dX5_readPiece_119 rfl ?_
      refine x_get (j := 0) (v := .ref (h0 + 1)) hx hb hown hT hE hW cls_X5 (Or.inl (by decide)) (so_117 h0 g _) (by decide) rfl wq293 dX5_readPiece_120 ?_
      refine x_goi (x_runVN (As := []) hx hb hml hown hT hE hW hl.1 (Or.inl (by decide)) (so_1 h0 g _) rfl cf_X8_sign wq581 wq4 wn641 (c_X8_sign l D g T h0 s33 hW.2.1 hp34.1.1) ⟨rfl, rfl, ⟨by decide, by decide⟩, ⟨by decide, by decide⟩⟩ rfl rfl (Nat.le_of_ble_eq_true rfl) dX5_readPiece_123) hW (fun x37 s38 H locs rx37 hp39 hW => ?_)
      obtain ⟨es38, hp39⟩ := hp39
      subst es38
      have ghp39 := hp39
      refine lv_istore_n (lv' := [(3, .int (xJ x37)), (2, .int (xJ x1)), (0, .ref (h0 + 117)), (1, .int (xJ q))]) hx hb dX5_readPiece_126 rfl hl (by decide) rfl (fun ls hl => ?_)
      refine x_iload_n hx hb hl 0 rfl dX5_readPiece_127 rfl ?_
      refine x_bipush hx hb dX5_readPiece_128 (by decide) ?_
      have J161 : ∀ (ls : Array Slot), (x37 ≠ -1) → lv_has ls 5 [(0, .ref (h0 + 117)), (1, .int (xJ q)), (3, .int (xJ x37))] → W p l e { frames := 12, cells := 0, slots := 0, locals := 271 } s m args below meth c H locs 0 0 Q (F0 m 161 ls []) := by
        intro ls v161_0  hl
        refine x_aload_n hx hb hl 0 rfl dX5_readPiece_161 rfl ?_
        refine x_get (j := 0) (v := .ref (h0 + 1)) hx hb hown hT hE hW cls_X5 (Or.inl (by decide)) (so_117 h0 g _) (by decide) rfl wq293 dX5_readPiece_162 ?_
        refine lv_dup hx hb dX5_readPiece_165 rfl ?_
        refine x_getN (j := 3) (v := .int (xJ (s33 1 3))) hx hb hown hT hE hW cls_X8 (Or.inl (by decide)) (so_1 h0 g _) (by decide) rfl wn201 dX5_readPiece_166 ?_
        refine x_rd hW (fun x40 ex40 rx40 => ?_)
        refine x_iconst hx hb dX5_readPiece_169 ?_
        refine x_iadd hx hb dX5_readPiece_170 ?_
        refine x_putN (j := 3) hx hb hown hT hE hW cls_X8 (by decide) (fun σ => so_1 h0 g σ) (by decide) (st_X8_3 h0 s33 1 (x40 + 1)) (ln_X8_3 h0 _ _) wn201 rfl rfl rfl (by omega) dX5_readPiece_171 (fun H locs s41 es41 hW => ?_)
        have q42 : IC s41 := by rw [es41]; exact IC_1 hp34.1.1 (by omega)
        have q43 : s41 1 1 = s0 1 1 := (show s41 1 1 = s33 1 1 from by rw [es41, xU_j _ _ (by decide)]).trans (hp34.1.2.1.trans k1_1)
        have hF44 := hF35.put es41 (by omega)
        refine x_aload_n hx hb hl 0 rfl dX5_readPiece_174 rfl ?_
        refine x_iload_n hx hb hl 1 rfl dX5_readPiece_175 rfl ?_
        refine x_goi (x_runV (As := [.int (xJ q)]) hx hb hml hown hT hE hW hl.1 (Or.inl (by decide)) (so_117 h0 g _) rfl cf_X5_readSum wq652 wq16 wq650 (c_X5_readSumL4 l D g T h0 s41 hW.2.1 q rq (by omega) q42) ⟨rfl, rfl, ⟨by decide, by decide⟩, ⟨by decide, by decide⟩⟩ rfl rfl (Nat.le_of_ble_eq_true rfl) dX5_readPiece_176) hW (fun x45 s46 H locs rx45 hp47 hW => ?_)
        obtain ⟨fs46, hp47⟩ := hp47
        have hF48 := hF44.call fs46 (fun k h => by omega)
        have ghp47 := hp47.2
        refine lv_istore (lv' := [(4, .int (xJ x45)), (0, .ref (h0 + 117)), (1, .int (xJ q)), (3, .int (xJ x37))]) hx hb dX5_readPiece_179 hl (by decide) rfl (fun ls hl => ?_)
        refine x_aload_n hx hb hl 1 rfl dX5_readPiece_181 rfl ?_
        refine x_get (j := 1) (v := .ref (h0 + 118)) hx hb hown hT hE hW cls_X5 (Or.inl (by decide)) (so_117 h0 g _) (by decide) rfl wq294 dX5_readPiece_182 ?_
        refine x_iload_n hx hb hl 3 rfl dX5_readPiece_185 rfl ?_
        refine x_iconst hx hb dX5_readPiece_186 ?_
        refine x_goi (x_runVN (As := [.int (xJ x37), .int (xJ 0)]) hx hb hml hown hT hE hW hl.1 (Or.inl (by decide)) (so_118 h0 g _) rfl cf_X4_put wq672 wq21 wn670 (c_X4_put l D g T h0 s46 hW.2.1 x37 rx37 0 (by decide) hp47.1.1) ⟨rfl, rfl, ⟨by decide, by decide⟩, ⟨by decide, by decide⟩⟩ rfl rfl (Nat.le_of_ble_eq_true rfl) dX5_readPiece_187) hW (fun x49 s50 H locs rx49 hp51 hW => ?_)
        obtain ⟨fs50, hp51⟩ := hp51
        have hF52 := hF48.call fs50 (fun k h => by omega)
        have q53 : s50 1 1 = s0 1 1 := (congrFun (fs50 _ (by omega)) _).trans (hp47.1.2.1.trans q43)
        have ghp51 := hp51.2
        refine lv_pop hx hb dX5_readPiece_190 rfl ?_
        refine x_iload hx hb hl 0 rfl dX5_readPiece_191 ?_
        rw [eQ]
        exact x_zret hx hb hr hlk hW (by omega) ⟨hF52, ⟨hp51.1.1, q53, trivial⟩, by omega⟩ dX5_readPiece_193
      refine x_icmp_eq (tgt := 161) hx hb rx37 (by decide) dX5_readPiece_130 (by decide) (fun c54 => ?_) (fun c54 => ?_)
      · skip
        exact J161 ls (by omega)  (lv_sub hl [2, 3, 0] rfl)
      refine x_iload_n hx hb hl 0 rfl dX5_readPiece_133 rfl ?_
      refine x_bipush hx hb dX5_readPiece_134 (by decide) ?_
      refine x_icmp_eq (tgt := 161) hx hb rx37 (by decide) dX5_readPiece_136 (by decide) (fun c55 => ?_) (fun c55 => ?_)
      · skip
        exact J161 ls (by omega)  (lv_sub hl [2, 3, 0] rfl)
      refine x_iload_n hx hb hl 0 rfl dX5_readPiece_139 rfl ?_
      refine x_bipush hx hb dX5_readPiece_140 (by decide) ?_
      refine x_icmp_eq (tgt := 161) hx hb rx37 (by decide) dX5_readPiece_142 (by decide) (fun c56 => ?_) (fun c56 => ?_)
      · skip
        exact J161 ls (by omega)  (lv_sub hl [2, 3, 0] rfl)
      refine x_aload_n hx hb hl 2 rfl dX5_readPiece_145 rfl ?_
      refine x_get (j := 0) (v := .ref (h0 + 1)) hx hb hown hT hE hW cls_X5 (Or.inl (by decide)) (so_117 h0 g _) (by decide) rfl wq293 dX5_readPiece_146 ?_
      refine x_iconst hx hb dX5_readPiece_149 ?_
      refine x_aload_n hx hb hl 2 rfl dX5_readPiece_150 rfl ?_
      refine x_get (j := 0) (v := .ref (h0 + 1)) hx hb hown hT hE hW cls_X5 (Or.inl (by decide)) (so_117 h0 g _) (by decide) rfl wq293 dX5_readPiece_151 ?_
      refine x_getN (j := 3) (v := .int (xJ (s33 1 3))) hx hb hown hT hE hW cls_X8 (Or.inl (by decide)) (so_1 h0 g _) (by decide) rfl wn201 dX5_readPiece_154 ?_
      refine x_rd hW (fun x57 ex57 rx57 => ?_)
      refine x_goi (x_runVN (As := [.int (xJ 1), .int (xJ x57)]) hx hb hml hown hT hE hW hl.1 (Or.inl (by decide)) (so_1 h0 g _) rfl cf_X8_fails wq588 wq5 wn645 (c_X8_fails l D g T h0 s33 hW.2.1 1 (by decide) x57 rx57 hp34.1.1) ⟨rfl, rfl, ⟨by decide, by decide⟩, ⟨by decide, by decide⟩⟩ rfl rfl (Nat.le_of_ble_eq_true rfl) dX5_readPiece_157) hW (fun x58 s59 H locs rx58 hp60 hW => ?_)
      obtain ⟨fs59, hp60⟩ := hp60
      have hF61 := hF35.call fs59 (fun k h => by omega)
      have ghp60 := hp60.2
      rw [eQ]
      exact x_zret hx hb hr hlk hW (by omega) ⟨hF61, ⟨hp60.1.1, (hp60.1.2.1.trans (hp34.1.2.1.trans k1_1)), trivial⟩, by omega⟩ dX5_readPiece_160
    refine x_iconst hx hb dX5_readPiece_117 ?_
    rw [eQ]
    exact x_zret hx hb hr hlk hW (by omega) ⟨hF35, ⟨hp34.1.1, (hp34.1.2.1.trans k1_1), trivial⟩, by omega⟩ dX5_readPiece_118
  exact J20 ls (by omega)  (lv_sub hl [1, 2, 0] rfl)
set_option maxHeartbeats 4000000 in
set_option maxRecDepth 100000 in
theorem c_X5_readPiecesL4 (l : Launch) (D : va_G) (g : xG) (T : Nat × Nat × Nat) (h0 : Nat) (s0 : xS) (hσ : xRR s0) (q : Int) (rq : xR q) (hq : q = 4) (p0 : IC s0) : Met l yX5_readPieces (xws yX5_readPieces cX5_readPieces 4 (some .boolean)) { frames := 13, cells := 0, slots := 0, locals := 295 } (xP [.ref (h0 + 117), .int (xJ q)] D g T h0 s0) (xQi D g h0 (fun r τ => xFr (fun k => k = 1 ∨ k = 118 ∨ k = 119 ∨ k = 120) s0 τ ∧ (((IC τ) ∧ (τ 1 1 = s0 1 1) ∧ True) ∧ (r = 0 ∨ r = 1)))) 0 0 (xA h0) := by
  refine x_met hσ (by decide) (Nat.le_of_ble_eq_true rfl) ?_
  intro p e s m args below meth c hx hb hr hml hown hT hlk hnm hE hW ls hl
  have hl : lv_has ls 4 [(0, .ref (h0 + 117)), (1, .int (xJ q))] := hl
  obtain ⟨Q, eQ⟩ : ∃ Q, Q = MQ below (xQi D g h0 (fun r τ => xFr (fun k => k = 1 ∨ k = 118 ∨ k = 119 ∨ k = 120) s0 τ ∧ (((IC τ) ∧ (τ 1 1 = s0 1 1) ∧ True) ∧ (r = 0 ∨ r = 1)))) args s 0 0 (xA h0) := ⟨_, rfl⟩
  rw [← eQ]
  generalize hHe : ([] : List Loc) = locs at hW ⊢
  obtain ⟨H, eH⟩ : ∃ H, H = s.heap := ⟨_, rfl⟩
  rw [← eH] at hW ⊢
  have hF : xFr (fun k => k = 1 ∨ k = 118 ∨ k = 119 ∨ k = 120) s0 s0 := xFr.rf
  have k1_1 : s0 1 1 = s0 1 1 := rfl
  refine x_aload_n hx hb hl 0 rfl dX5_readPieces_0 rfl ?_
  refine x_iload_n hx hb hl 1 rfl dX5_readPieces_1 rfl ?_
  refine x_goi (x_runV (As := [.int (xJ q)]) hx hb hml hown hT hE hW hl.1 (Or.inl (by decide)) (so_117 h0 g _) rfl cf_X5_readPiece wq688 wq24 wq686 (c_X5_readPieceL4 l D g T h0 s0 hW.2.1 q rq (by omega) p0) ⟨rfl, rfl, ⟨by decide, by decide⟩, ⟨by decide, by decide⟩⟩ rfl rfl (Nat.le_of_ble_eq_true rfl) dX5_readPieces_2) hW (fun x1 s2 H locs rx1 hp3 hW => ?_)
  obtain ⟨fs2, hp3⟩ := hp3
  have hF4 := hF.call fs2 (fun k h => by omega)
  have ghp3 := hp3.2
  refine x_if_ne (tgt := 10) hx hb rx1 dX5_readPieces_5 (by decide) (fun c5 => ?_) (fun c5 => ?_)
  · skip
    refine x_iconst hx hb dX5_readPieces_10 ?_
    refine lv_istore_n (lv' := [(2, .int (xJ 0)), (0, .ref (h0 + 117)), (1, .int (xJ q))]) hx hb dX5_readPieces_11 rfl hl (by decide) rfl (fun ls hl => ?_)
    have L12 : ∀ (fu : Nat) (i2_12 : Int) (s_12 : xS) (H : Heap) (locs : List Loc) (ls : Array Slot), (xR i2_12) → (xFr (fun k => k = 1 ∨ k = 118 ∨ k = 119 ∨ k = 120) s0 s_12) → (IC s_12) → (s_12 1 1 = s0 1 1) → (0 ≤ i2_12) → (i2_12 ≤ 300) → (300 + 1 - i2_12).toNat < fu → xW D g h0 s H locs s_12 → lv_has ls 4 [(0, .ref (h0 + 117)), (1, .int (xJ q)), (2, .int (xJ i2_12))] → W p l e { frames := 13, cells := 0, slots := 0, locals := 295 } s m args below meth c H locs 0 0 Q (F0 m 12 ls []) := by
      intro fu
      induction fu with
      | zero => intro i2_12 s_12 H locs ls ri2_12 hF_12 q12_0 q12_1 v12_0 v12_1 hm; exact absurd hm (Nat.not_lt_zero _)
      | succ fu ih12 =>
        intro i2_12 s_12 H locs ls ri2_12 hF_12 q12_0 q12_1 v12_0 v12_1 hm hW hl
        refine x_iload_n hx hb hl 2 rfl dX5_readPieces_12 rfl ?_
        refine x_sipush hx hb dX5_readPieces_13 (by decide) ?_
        refine x_icmp_ge (tgt := 78) hx hb ri2_12 (by decide) dX5_readPieces_16 (by decide) (fun c6 => ?_) (fun c6 => ?_)
        · skip
          refine x_iconst hx hb dX5_readPieces_78 ?_
          rw [eQ]
          exact x_zret hx hb hr hlk hW (by omega) ⟨hF_12, ⟨q12_0, q12_1, trivial⟩, by omega⟩ dX5_readPieces_79
        refine x_aload_n hx hb hl 0 rfl dX5_readPieces_19 rfl ?_
        refine x_get (j := 0) (v := .ref (h0 + 1)) hx hb hown hT hE hW cls_X5 (Or.inl (by decide)) (so_117 h0 g _) (by decide) rfl wq293 dX5_readPieces_20 ?_
        refine x_goi (x_runVN (As := []) hx hb hml hown hT hE hW hl.1 (Or.inl (by decide)) (so_1 h0 g _) rfl cf_X8_sign wq581 wq4 wn641 (c_X8_sign l D g T h0 s_12 hW.2.1 q12_0) ⟨rfl, rfl, ⟨by decide, by decide⟩, ⟨by decide, by decide⟩⟩ rfl rfl (Nat.le_of_ble_eq_true rfl) dX5_readPieces_23) hW (fun x7 s8 H locs rx7 hp9 hW => ?_)
        obtain ⟨es8, hp9⟩ := hp9
        subst es8
        have ghp9 := hp9
        refine x_bipush hx hb dX5_readPieces_26 (by decide) ?_
        refine x_icmp_ne (tgt := 78) hx hb rx7 (by decide) dX5_readPieces_28 (by decide) (fun c10 => ?_) (fun c10 => ?_)
        · skip
          refine x_iconst hx hb dX5_readPieces_78 ?_
          rw [eQ]
          exact x_zret hx hb hr hlk hW (by omega) ⟨hF_12, ⟨q12_0, q12_1, trivial⟩, by omega⟩ dX5_readPieces_79
        refine x_aload_n hx hb hl 0 rfl dX5_readPieces_31 rfl ?_
        refine x_get (j := 0) (v := .ref (h0 + 1)) hx hb hown hT hE hW cls_X5 (Or.inl (by decide)) (so_117 h0 g _) (by decide) rfl wq293 dX5_readPieces_32 ?_
        refine lv_dup hx hb dX5_readPieces_35 rfl ?_
        refine x_getN (j := 3) (v := .int (xJ (s_12 1 3))) hx hb hown hT hE hW cls_X8 (Or.inl (by decide)) (so_1 h0 g _) (by decide) rfl wn201 dX5_readPieces_36 ?_
        refine x_rd hW (fun x11 ex11 rx11 => ?_)
        refine x_iconst hx hb dX5_readPieces_39 ?_
        refine x_iadd hx hb dX5_readPieces_40 ?_
        refine x_putN (j := 3) hx hb hown hT hE hW cls_X8 (by decide) (fun σ => so_1 h0 g σ) (by decide) (st_X8_3 h0 s_12 1 (x11 + 1)) (ln_X8_3 h0 _ _) wn201 rfl rfl rfl (by omega) dX5_readPieces_41 (fun H locs s12 es12 hW => ?_)
        have q13 : IC s12 := by rw [es12]; exact IC_1 q12_0 (by omega)
        have q14 : s12 1 1 = s0 1 1 := (show s12 1 1 = s_12 1 1 from by rw [es12, xU_j _ _ (by decide)]).trans q12_1
        have hF15 := hF_12.put es12 (by omega)
        refine x_aload_n hx hb hl 0 rfl dX5_readPieces_44 rfl ?_
        refine x_get (j := 1) (v := .ref (h0 + 118)) hx hb hown hT hE hW cls_X5 (Or.inl (by decide)) (so_117 h0 g _) (by decide) rfl wq294 dX5_readPieces_45 ?_
        refine x_iconst hx hb dX5_readPieces_48 ?_
        refine x_iconst hx hb dX5_readPieces_49 ?_
        refine x_goi (x_runVN (As := [.int (xJ 4), .int (xJ 0)]) hx hb hml hown hT hE hW hl.1 (Or.inl (by decide)) (so_118 h0 g _) rfl cf_X4_put wq672 wq21 wn670 (c_X4_put l D g T h0 s12 hW.2.1 4 (by decide) 0 (by decide) q13) ⟨rfl, rfl, ⟨by decide, by decide⟩, ⟨by decide, by decide⟩⟩ rfl rfl (Nat.le_of_ble_eq_true rfl) dX5_readPieces_50) hW (fun x16 s17 H locs rx16 hp18 hW => ?_)
        obtain ⟨fs17, hp18⟩ := hp18
        have hF19 := hF15.call fs17 (fun k h => by omega)
        have q20 : s17 1 1 = s0 1 1 := (congrFun (fs17 _ (by omega)) _).trans q14
        have ghp18 := hp18.2
        refine lv_istore_n (lv' := [(3, .int (xJ x16)), (0, .ref (h0 + 117)), (1, .int (xJ q)), (2, .int (xJ i2_12))]) hx hb dX5_readPieces_53 rfl hl (by decide) rfl (fun ls hl => ?_)
        refine x_aload_n hx hb hl 1 rfl dX5_readPieces_54 rfl ?_
        refine x_iload_n hx hb hl 2 rfl dX5_readPieces_55 rfl ?_
        refine x_goi (x_runV (As := [.int (xJ q)]) hx hb hml hown hT hE hW hl.1 (Or.inl (by decide)) (so_117 h0 g _) rfl cf_X5_readPiece wq688 wq24 wq686 (c_X5_readPieceL4 l D g T h0 s17 hW.2.1 q rq (by omega) hp18.1.1) ⟨rfl, rfl, ⟨by decide, by decide⟩, ⟨by decide, by decide⟩⟩ rfl rfl (Nat.le_of_ble_eq_true rfl) dX5_readPieces_56) hW (fun x21 s22 H locs rx21 hp23 hW => ?_)
        obtain ⟨fs22, hp23⟩ := hp23
        have hF24 := hF19.call fs22 (fun k h => by omega)
        have ghp23 := hp23.2
        refine x_if_ne (tgt := 64) hx hb rx21 dX5_readPieces_59 (by decide) (fun c25 => ?_) (fun c25 => ?_)
        · skip
          refine x_aload_n hx hb hl 1 rfl dX5_readPieces_64 rfl ?_
          refine x_get (j := 1) (v := .ref (h0 + 118)) hx hb hown hT hE hW cls_X5 (Or.inl (by decide)) (so_117 h0 g _) (by decide) rfl wq294 dX5_readPieces_65 ?_
          refine x_iload_n hx hb hl 0 rfl dX5_readPieces_68 rfl ?_
          refine x_gov (x_runVN (As := [.int (xJ x16)]) hx hb hml hown hT hE hW hl.1 (Or.inl (by decide)) (so_118 h0 g _) rfl cf_X4_landSkip wq692 wq25 wn690 (c_X4_landSkip l D g T h0 s22 hW.2.1 x16 rx16 hp23.1.1) ⟨rfl, rfl, ⟨by decide, by decide⟩, ⟨by decide, by decide⟩⟩ rfl rfl (Nat.le_of_ble_eq_true rfl) dX5_readPieces_69) hW (fun s27 H locs hp28 hW => ?_)
          obtain ⟨fs27, hp28⟩ := hp28
          have hF29 := hF24.call fs27 (fun k h => by omega)
          have q30 : s27 1 1 = s0 1 1 := (congrFun (fs27 _ (by omega)) _).trans (hp23.1.2.1.trans q20)
          have ghp28 := hp28.2
          refine x_iinc (lv' := [(2, .int (xJ (i2_12 + 1))), (3, .int (xJ x16)), (0, .ref (h0 + 117)), (1, .int (xJ q))]) hx hb hl 3 rfl dX5_readPieces_72 (by decide) rfl (fun ls hl => ?_)
          refine lv_goto (tgt := 12) hx hb dX5_readPieces_75 (by decide) ?_
          exact ih12 (i2_12 + 1) s27 H locs ls (by omega) hF29 hp28.1.1 q30 (by omega) (by omega) (by omega) hW (lv_sub hl [2, 3, 0] rfl)
        refine x_iconst hx hb dX5_readPieces_62 ?_
        rw [eQ]
        exact x_zret hx hb hr hlk hW (by omega) ⟨hF24, ⟨hp23.1.1, (hp23.1.2.1.trans q20), trivial⟩, by omega⟩ dX5_readPieces_63
    exact L12 ((300 + 1 - 0 : Int).toNat + 1) 0 s2 H locs ls (by decide) hF4 hp3.1.1 (hp3.1.2.1.trans k1_1) (by omega) (by omega) (Nat.lt_succ_self _) hW (lv_sub hl [1, 2, 0] rfl)
  refine x_iconst hx hb dX5_readPieces_8 ?_
  rw [eQ]
  exact x_zret hx hb hr hlk hW (by omega) ⟨hF4, ⟨hp3.1.1, (hp3.1.2.1.trans k1_1), trivial⟩, by omega⟩ dX5_readPieces_9
set_option maxHeartbeats 4000000 in
set_option maxRecDepth 100000 in
theorem c_X5_readPartsL4 (l : Launch) (D : va_G) (g : xG) (T : Nat × Nat × Nat) (h0 : Nat) (s0 : xS) (hσ : xRR s0) (q : Int) (rq : xR q) (hq : q = 4) (p0 : IC s0) : Met l yX5_readParts (xws yX5_readParts cX5_readParts 4 (some .boolean)) { frames := 14, cells := 0, slots := 0, locals := 318 } (xP [.ref (h0 + 117), .int (xJ q)] D g T h0 s0) (xQi D g h0 (fun r τ => xFr (fun k => k = 1 ∨ k = 118 ∨ k = 119 ∨ k = 120) s0 τ ∧ (((IC τ) ∧ (τ 1 1 = s0 1 1) ∧ True) ∧ (r = 0 ∨ r = 1)))) 0 0 (xA h0) := by
  refine x_met hσ (by decide) (Nat.le_of_ble_eq_true rfl) ?_
  intro p e s m args below meth c hx hb hr hml hown hT hlk hnm hE hW ls hl
  have hl : lv_has ls 4 [(0, .ref (h0 + 117)), (1, .int (xJ q))] := hl
  obtain ⟨Q, eQ⟩ : ∃ Q, Q = MQ below (xQi D g h0 (fun r τ => xFr (fun k => k = 1 ∨ k = 118 ∨ k = 119 ∨ k = 120) s0 τ ∧ (((IC τ) ∧ (τ 1 1 = s0 1 1) ∧ True) ∧ (r = 0 ∨ r = 1)))) args s 0 0 (xA h0) := ⟨_, rfl⟩
  rw [← eQ]
  generalize hHe : ([] : List Loc) = locs at hW ⊢
  obtain ⟨H, eH⟩ : ∃ H, H = s.heap := ⟨_, rfl⟩
  rw [← eH] at hW ⊢
  have hF : xFr (fun k => k = 1 ∨ k = 118 ∨ k = 119 ∨ k = 120) s0 s0 := xFr.rf
  have k1_1 : s0 1 1 = s0 1 1 := rfl
  refine x_aload_n hx hb hl 0 rfl dX5_readParts_0 rfl ?_
  refine x_iload_n hx hb hl 1 rfl dX5_readParts_1 rfl ?_
  refine x_goi (x_runV (As := [.int (xJ q)]) hx hb hml hown hT hE hW hl.1 (Or.inl (by decide)) (so_117 h0 g _) rfl cf_X5_readPieces wq684 wq23 wq682 (c_X5_readPiecesL4 l D g T h0 s0 hW.2.1 q rq (by omega) p0) ⟨rfl, rfl, ⟨by decide, by decide⟩, ⟨by decide, by decide⟩⟩ rfl rfl (Nat.le_of_ble_eq_true rfl) dX5_readParts_2) hW (fun x1 s2 H locs rx1 hp3 hW => ?_)
  obtain ⟨fs2, hp3⟩ := hp3
  have hF4 := hF.call fs2 (fun k h => by omega)
  have ghp3 := hp3.2
  refine x_if_ne (tgt := 10) hx hb rx1 dX5_readParts_5 (by decide) (fun c5 => ?_) (fun c5 => ?_)
  · skip
    refine x_iconst hx hb dX5_readParts_10 ?_
    refine lv_istore_n (lv' := [(2, .int (xJ 0)), (0, .ref (h0 + 117)), (1, .int (xJ q))]) hx hb dX5_readParts_11 rfl hl (by decide) rfl (fun ls hl => ?_)
    have L12 : ∀ (fu : Nat) (i2_12 : Int) (s_12 : xS) (H : Heap) (locs : List Loc) (ls : Array Slot), (xR i2_12) → (xFr (fun k => k = 1 ∨ k = 118 ∨ k = 119 ∨ k = 120) s0 s_12) → (IC s_12) → (s_12 1 1 = s0 1 1) → (0 ≤ i2_12) → (i2_12 ≤ 300) → (300 + 1 - i2_12).toNat < fu → xW D g h0 s H locs s_12 → lv_has ls 4 [(0, .ref (h0 + 117)), (1, .int (xJ q)), (2, .int (xJ i2_12))] → W p l e { frames := 14, cells := 0, slots := 0, locals := 318 } s m args below meth c H locs 0 0 Q (F0 m 12 ls []) := by
      intro fu
      induction fu with
      | zero => intro i2_12 s_12 H locs ls ri2_12 hF_12 q12_0 q12_1 v12_0 v12_1 hm; exact absurd hm (Nat.not_lt_zero _)
      | succ fu ih12 =>
        intro i2_12 s_12 H locs ls ri2_12 hF_12 q12_0 q12_1 v12_0 v12_1 hm hW hl
        refine x_iload_n hx hb hl 2 rfl dX5_readParts_12 rfl ?_
        refine x_sipush hx hb dX5_readParts_13 (by decide) ?_
        refine x_icmp_ge (tgt := 78) hx hb ri2_12 (by decide) dX5_readParts_16 (by decide) (fun c6 => ?_) (fun c6 => ?_)
        · skip
          refine x_iconst hx hb dX5_readParts_78 ?_
          rw [eQ]
          exact x_zret hx hb hr hlk hW (by omega) ⟨hF_12, ⟨q12_0, q12_1, trivial⟩, by omega⟩ dX5_readParts_79
        refine x_aload_n hx hb hl 0 rfl dX5_readParts_19 rfl ?_
        refine x_get (j := 0) (v := .ref (h0 + 1)) hx hb hown hT hE hW cls_X5 (Or.inl (by decide)) (so_117 h0 g _) (by decide) rfl wq293 dX5_readParts_20 ?_
        refine x_goi (x_runVN (As := []) hx hb hml hown hT hE hW hl.1 (Or.inl (by decide)) (so_1 h0 g _) rfl cf_X8_sign wq581 wq4 wn641 (c_X8_sign l D g T h0 s_12 hW.2.1 q12_0) ⟨rfl, rfl, ⟨by decide, by decide⟩, ⟨by decide, by decide⟩⟩ rfl rfl (Nat.le_of_ble_eq_true rfl) dX5_readParts_23) hW (fun x7 s8 H locs rx7 hp9 hW => ?_)
        obtain ⟨es8, hp9⟩ := hp9
        subst es8
        have ghp9 := hp9
        refine x_bipush hx hb dX5_readParts_26 (by decide) ?_
        refine x_icmp_ne (tgt := 78) hx hb rx7 (by decide) dX5_readParts_28 (by decide) (fun c10 => ?_) (fun c10 => ?_)
        · skip
          refine x_iconst hx hb dX5_readParts_78 ?_
          rw [eQ]
          exact x_zret hx hb hr hlk hW (by omega) ⟨hF_12, ⟨q12_0, q12_1, trivial⟩, by omega⟩ dX5_readParts_79
        refine x_aload_n hx hb hl 0 rfl dX5_readParts_31 rfl ?_
        refine x_get (j := 0) (v := .ref (h0 + 1)) hx hb hown hT hE hW cls_X5 (Or.inl (by decide)) (so_117 h0 g _) (by decide) rfl wq293 dX5_readParts_32 ?_
        refine lv_dup hx hb dX5_readParts_35 rfl ?_
        refine x_getN (j := 3) (v := .int (xJ (s_12 1 3))) hx hb hown hT hE hW cls_X8 (Or.inl (by decide)) (so_1 h0 g _) (by decide) rfl wn201 dX5_readParts_36 ?_
        refine x_rd hW (fun x11 ex11 rx11 => ?_)
        refine x_iconst hx hb dX5_readParts_39 ?_
        refine x_iadd hx hb dX5_readParts_40 ?_
        refine x_putN (j := 3) hx hb hown hT hE hW cls_X8 (by decide) (fun σ => so_1 h0 g σ) (by decide) (st_X8_3 h0 s_12 1 (x11 + 1)) (ln_X8_3 h0 _ _) wn201 rfl rfl rfl (by omega) dX5_readParts_41 (fun H locs s12 es12 hW => ?_)
        have q13 : IC s12 := by rw [es12]; exact IC_1 q12_0 (by omega)
        have q14 : s12 1 1 = s0 1 1 := (show s12 1 1 = s_12 1 1 from by rw [es12, xU_j _ _ (by decide)]).trans q12_1
        have hF15 := hF_12.put es12 (by omega)
        refine x_aload_n hx hb hl 0 rfl dX5_readParts_44 rfl ?_
        refine x_get (j := 1) (v := .ref (h0 + 118)) hx hb hown hT hE hW cls_X5 (Or.inl (by decide)) (so_117 h0 g _) (by decide) rfl wq294 dX5_readParts_45 ?_
        refine x_iconst hx hb dX5_readParts_48 ?_
        refine x_iconst hx hb dX5_readParts_49 ?_
        refine x_goi (x_runVN (As := [.int (xJ 5), .int (xJ 0)]) hx hb hml hown hT hE hW hl.1 (Or.inl (by decide)) (so_118 h0 g _) rfl cf_X4_put wq672 wq21 wn670 (c_X4_put l D g T h0 s12 hW.2.1 5 (by decide) 0 (by decide) q13) ⟨rfl, rfl, ⟨by decide, by decide⟩, ⟨by decide, by decide⟩⟩ rfl rfl (Nat.le_of_ble_eq_true rfl) dX5_readParts_50) hW (fun x16 s17 H locs rx16 hp18 hW => ?_)
        obtain ⟨fs17, hp18⟩ := hp18
        have hF19 := hF15.call fs17 (fun k h => by omega)
        have q20 : s17 1 1 = s0 1 1 := (congrFun (fs17 _ (by omega)) _).trans q14
        have ghp18 := hp18.2
        refine lv_istore_n (lv' := [(3, .int (xJ x16)), (0, .ref (h0 + 117)), (1, .int (xJ q)), (2, .int (xJ i2_12))]) hx hb dX5_readParts_53 rfl hl (by decide) rfl (fun ls hl => ?_)
        refine x_aload_n hx hb hl 1 rfl dX5_readParts_54 rfl ?_
        refine x_iload_n hx hb hl 2 rfl dX5_readParts_55 rfl ?_
        refine x_goi (x_runV (As := [.int (xJ q)]) hx hb hml hown hT hE hW hl.1 (Or.inl (by decide)) (so_117 h0 g _) rfl cf_X5_readPieces wq684 wq23 wq682 (c_X5_readPiecesL4 l D g T h0 s17 hW.2.1 q rq (by omega) hp18.1.1) ⟨rfl, rfl, ⟨by decide, by decide⟩, ⟨by decide, by decide⟩⟩ rfl rfl (Nat.le_of_ble_eq_true rfl) dX5_readParts_56) hW (fun x21 s22 H locs rx21 hp23 hW => ?_)
        obtain ⟨fs22, hp23⟩ := hp23
        have hF24 := hF19.call fs22 (fun k h => by omega)
        have ghp23 := hp23.2
        refine x_if_ne (tgt := 64) hx hb rx21 dX5_readParts_59 (by decide) (fun c25 => ?_) (fun c25 => ?_)
        · skip
          refine x_aload_n hx hb hl 1 rfl dX5_readParts_64 rfl ?_
          refine x_get (j := 1) (v := .ref (h0 + 118)) hx hb hown hT hE hW cls_X5 (Or.inl (by decide)) (so_117 h0 g _) (by decide) rfl wq294 dX5_readParts_65 ?_
          refine x_iload_n hx hb hl 0 rfl dX5_readParts_68 rfl ?_
          refine x_gov (x_runVN (As := [.int (xJ x16)]) hx hb hml hown hT hE hW hl.1 (Or.inl (by decide)) (so_118 h0 g _) rfl cf_X4_landSkip wq692 wq25 wn690 (c_X4_landSkip l D g T h0 s22 hW.2.1 x16 rx16 hp23.1.1) ⟨rfl, rfl, ⟨by decide, by decide⟩, ⟨by decide, by decide⟩⟩ rfl rfl (Nat.le_of_ble_eq_true rfl) dX5_readParts_69) hW (fun s27 H locs hp28 hW => ?_)
          obtain ⟨fs27, hp28⟩ := hp28
          have hF29 := hF24.call fs27 (fun k h => by omega)
          have q30 : s27 1 1 = s0 1 1 := (congrFun (fs27 _ (by omega)) _).trans (hp23.1.2.1.trans q20)
          have ghp28 := hp28.2
          refine x_iinc (lv' := [(2, .int (xJ (i2_12 + 1))), (3, .int (xJ x16)), (0, .ref (h0 + 117)), (1, .int (xJ q))]) hx hb hl 3 rfl dX5_readParts_72 (by decide) rfl (fun ls hl => ?_)
          refine lv_goto (tgt := 12) hx hb dX5_readParts_75 (by decide) ?_
          exact ih12 (i2_12 + 1) s27 H locs ls (by omega) hF29 hp28.1.1 q30 (by omega) (by omega) (by omega) hW (lv_sub hl [2, 3, 0] rfl)
        refine x_iconst hx hb dX5_readParts_62 ?_
        rw [eQ]
        exact x_zret hx hb hr hlk hW (by omega) ⟨hF24, ⟨hp23.1.1, (hp23.1.2.1.trans q20), trivial⟩, by omega⟩ dX5_readParts_63
    exact L12 ((300 + 1 - 0 : Int).toNat + 1) 0 s2 H locs ls (by decide) hF4 hp3.1.1 (hp3.1.2.1.trans k1_1) (by omega) (by omega) (Nat.lt_succ_self _) hW (lv_sub hl [1, 2, 0] rfl)
  refine x_iconst hx hb dX5_readParts_8 ?_
  rw [eQ]
  exact x_zret hx hb hr hlk hW (by omega) ⟨hF4, ⟨hp3.1.1, (hp3.1.2.1.trans k1_1), trivial⟩, by omega⟩ dX5_readParts_9
set_option maxHeartbeats 4000000 in
set_option maxRecDepth 100000 in
theorem c_X5_readPieceL3 (l : Launch) (D : va_G) (g : xG) (T : Nat × Nat × Nat) (h0 : Nat) (s0 : xS) (hσ : xRR s0) (q : Int) (rq : xR q) (hq : q = 3) (p0 : IC s0) : Met l yX5_readPiece (xws yX5_readPiece cX5_readPiece 5 (some .boolean)) { frames := 15, cells := 0, slots := 0, locals := 341 } (xP [.ref (h0 + 117), .int (xJ q)] D g T h0 s0) (xQi D g h0 (fun r τ => xFr (fun k => k = 1 ∨ k = 118 ∨ k = 119 ∨ k = 120) s0 τ ∧ (((IC τ) ∧ (τ 1 1 = s0 1 1) ∧ True) ∧ (r = 0 ∨ r = 1)))) 0 0 (xA h0) := by
  refine x_met hσ (by decide) (Nat.le_of_ble_eq_true rfl) ?_
  intro p e s m args below meth c hx hb hr hml hown hT hlk hnm hE hW ls hl
  have hl : lv_has ls 5 [(0, .ref (h0 + 117)), (1, .int (xJ q))] := hl
  obtain ⟨Q, eQ⟩ : ∃ Q, Q = MQ below (xQi D g h0 (fun r τ => xFr (fun k => k = 1 ∨ k = 118 ∨ k = 119 ∨ k = 120) s0 τ ∧ (((IC τ) ∧ (τ 1 1 = s0 1 1) ∧ True) ∧ (r = 0 ∨ r = 1)))) args s 0 0 (xA h0) := ⟨_, rfl⟩
  rw [← eQ]
  generalize hHe : ([] : List Loc) = locs at hW ⊢
  obtain ⟨H, eH⟩ : ∃ H, H = s.heap := ⟨_, rfl⟩
  rw [← eH] at hW ⊢
  have hF : xFr (fun k => k = 1 ∨ k = 118 ∨ k = 119 ∨ k = 120) s0 s0 := xFr.rf
  have k1_1 : s0 1 1 = s0 1 1 := rfl
  refine x_aload_n hx hb hl 0 rfl dX5_readPiece_0 rfl ?_
  refine x_get (j := 0) (v := .ref (h0 + 1)) hx hb hown hT hE hW cls_X5 (Or.inl (by decide)) (so_117 h0 g _) (by decide) rfl wq293 dX5_readPiece_1 ?_
  refine x_goi (x_runVN (As := []) hx hb hml hown hT hE hW hl.1 (Or.inl (by decide)) (so_1 h0 g _) rfl cf_X8_sign wq581 wq4 wn641 (c_X8_sign l D g T h0 s0 hW.2.1 p0) ⟨rfl, rfl, ⟨by decide, by decide⟩, ⟨by decide, by decide⟩⟩ rfl rfl (Nat.le_of_ble_eq_true rfl) dX5_readPiece_4) hW (fun x1 s2 H locs rx1 hp3 hW => ?_)
  obtain ⟨es2, hp3⟩ := hp3
  subst es2
  have ghp3 := hp3
  refine lv_istore_n (lv' := [(2, .int (xJ x1)), (0, .ref (h0 + 117)), (1, .int (xJ q))]) hx hb dX5_readPiece_7 rfl hl (by decide) rfl (fun ls hl => ?_)
  refine x_iload_n hx hb hl 0 rfl dX5_readPiece_8 rfl ?_
  refine x_bipush hx hb dX5_readPiece_9 (by decide) ?_
  have J20 : ∀ (ls : Array Slot), (0 ≤ s0 1 3 ∧ s0 1 3 < 260) → lv_has ls 5 [(0, .ref (h0 + 117)), (1, .int (xJ q)), (2, .int (xJ x1))] → W p l e { frames := 15, cells := 0, slots := 0, locals := 341 } s m args below meth c H locs 0 0 Q (F0 m 20 ls []) := by
    intro ls v20_0  hl
    refine x_iload_n hx hb hl 1 rfl dX5_readPiece_20 rfl ?_
    refine x_bipush hx hb dX5_readPiece_21 (by decide) ?_
    refine x_icmp_lt (tgt := 42) hx hb rq (by decide) dX5_readPiece_23 (by decide) (fun c4 => ?_) (fun c4 => False.elim (by omega))
    refine x_aload_n hx hb hl 0 rfl dX5_readPiece_42 rfl ?_
    refine x_get (j := 0) (v := .ref (h0 + 1)) hx hb hown hT hE hW cls_X5 (Or.inl (by decide)) (so_117 h0 g _) (by decide) rfl wq293 dX5_readPiece_43 ?_
    refine lv_dup hx hb dX5_readPiece_46 rfl ?_
    refine x_getN (j := 3) (v := .int (xJ (s0 1 3))) hx hb hown hT hE hW cls_X8 (Or.inl (by decide)) (so_1 h0 g _) (by decide) rfl wn201 dX5_readPiece_47 ?_
    refine x_rd hW (fun x5 ex5 rx5 => ?_)
    refine x_iconst hx hb dX5_readPiece_50 ?_
    refine x_iadd hx hb dX5_readPiece_51 ?_
    refine x_putN (j := 3) hx hb hown hT hE hW cls_X8 (by decide) (fun σ => so_1 h0 g σ) (by decide) (st_X8_3 h0 s0 1 (x5 + 1)) (ln_X8_3 h0 _ _) wn201 rfl rfl rfl (by omega) dX5_readPiece_52 (fun H locs s6 es6 hW => ?_)
    have q7 : IC s6 := by rw [es6]; exact IC_1 p0 (by omega)
    have q8 : s6 1 1 = s0 1 1 := (show s6 1 1 = s0 1 1 from by rw [es6, xU_j _ _ (by decide)]).trans k1_1
    have hF9 := hF.put es6 (by omega)
    refine x_iload_n hx hb hl 2 rfl dX5_readPiece_55 rfl ?_
    refine x_bipush hx hb dX5_readPiece_56 (by decide) ?_
    refine x_icmp_ne (tgt := 89) hx hb rx1 (by decide) dX5_readPiece_58 (by decide) (fun c10 => ?_) (fun c10 => ?_)
    · skip
      refine x_aload_n hx hb hl 0 rfl dX5_readPiece_89 rfl ?_
      refine x_iload_n hx hb hl 1 rfl dX5_readPiece_90 rfl ?_
      refine x_iconst hx hb dX5_readPiece_91 ?_
      refine x_iadd hx hb dX5_readPiece_92 ?_
      refine x_goi (x_runV (As := [.int (xJ (q + 1))]) hx hb hml hown hT hE hW hl.1 (Or.inl (by decide)) (so_117 h0 g _) rfl cf_X5_readPiece wq688 wq24 wq686 (c_X5_readPieceL4 l D g T h0 s6 hW.2.1 (q + 1) (by omega) (by omega) q7) ⟨rfl, rfl, ⟨by decide, by decide⟩, ⟨by decide, by decide⟩⟩ rfl rfl (Nat.le_of_ble_eq_true rfl) dX5_readPiece_93) hW (fun x11 s12 H locs rx11 hp13 hW => ?_)
      obtain ⟨fs12, hp13⟩ := hp13
      have hF14 := hF9.call fs12 (fun k h => by omega)
      have ghp13 := hp13.2
      refine lv_istore_n (lv' := [(3, .int (xJ x11)), (0, .ref (h0 + 117)), (1, .int (xJ q)), (2, .int (xJ x1))]) hx hb dX5_readPiece_96 rfl hl (by decide) rfl (fun ls hl => ?_)
      refine x_aload_n hx hb hl 1 rfl dX5_readPiece_97 rfl ?_
      refine x_get (j := 1) (v := .ref (h0 + 118)) hx hb hown hT hE hW cls_X5 (Or.inl (by decide)) (so_117 h0 g _) (by decide) rfl wq294 dX5_readPiece_98 ?_
      refine x_iconst hx hb dX5_readPiece_101 ?_
      refine x_iconst hx hb dX5_readPiece_102 ?_
      refine x_goi (x_runVN (As := [.int (xJ 3), .int (xJ 0)]) hx hb hml hown hT hE hW hl.1 (Or.inl (by decide)) (so_118 h0 g _) rfl cf_X4_put wq672 wq21 wn670 (c_X4_put l D g T h0 s12 hW.2.1 3 (by decide) 0 (by decide) hp13.1.1) ⟨rfl, rfl, ⟨by decide, by decide⟩, ⟨by decide, by decide⟩⟩ rfl rfl (Nat.le_of_ble_eq_true rfl) dX5_readPiece_103) hW (fun x15 s16 H locs rx15 hp17 hW => ?_)
      obtain ⟨fs16, hp17⟩ := hp17
      have hF18 := hF14.call fs16 (fun k h => by omega)
      have q19 : s16 1 1 = s0 1 1 := (congrFun (fs16 _ (by omega)) _).trans (hp13.1.2.1.trans q8)
      have ghp17 := hp17.2
      refine lv_pop hx hb dX5_readPiece_106 rfl ?_
      refine x_iload_n hx hb hl 0 rfl dX5_readPiece_107 rfl ?_
      rw [eQ]
      exact x_zret hx hb hr hlk hW (by omega) ⟨hF18, ⟨hp17.1.1, q19, trivial⟩, by omega⟩ dX5_readPiece_108
    refine x_aload_n hx hb hl 0 rfl dX5_readPiece_61 rfl ?_
    refine x_iload_n hx hb hl 1 rfl dX5_readPiece_62 rfl ?_
    refine x_iconst hx hb dX5_readPiece_63 ?_
    refine x_iadd hx hb dX5_readPiece_64 ?_
    refine x_goi (x_runV (As := [.int (xJ (q + 1))]) hx hb hml hown hT hE hW hl.1 (Or.inl (by decide)) (so_117 h0 g _) rfl cf_X5_readParts wq680 wq22 wq678 (c_X5_readPartsL4 l D g T h0 s6 hW.2.1 (q + 1) (by omega) (by omega) q7) ⟨rfl, rfl, ⟨by decide, by decide⟩, ⟨by decide, by decide⟩⟩ rfl rfl (Nat.le_of_ble_eq_true rfl) dX5_readPiece_65) hW (fun x20 s21 H locs rx20 hp22 hW => ?_)
    obtain ⟨fs21, hp22⟩ := hp22
    have hF23 := hF9.call fs21 (fun k h => by omega)
    have ghp22 := hp22.2
    refine x_if_eq (tgt := 87) hx hb rx20 dX5_readPiece_68 (by decide) (fun c24 => ?_) (fun c24 => ?_)
    · skip
      refine x_iconst hx hb dX5_readPiece_87 ?_
      rw [eQ]
      exact x_zret hx hb hr hlk hW (by omega) ⟨hF23, ⟨hp22.1.1, (hp22.1.2.1.trans q8), trivial⟩, by omega⟩ dX5_readPiece_88
    refine x_aload_n hx hb hl 0 rfl dX5_readPiece_71 rfl ?_
    refine x_get (j := 0) (v := .ref (h0 + 1)) hx hb hown hT hE hW cls_X5 (Or.inl (by decide)) (so_117 h0 g _) (by decide) rfl wq293 dX5_readPiece_72 ?_
    refine x_bipush hx hb dX5_readPiece_75 (by decide) ?_
    refine x_goi (x_runVN (As := [.int (xJ 41)]) hx hb hml hown hT hE hW hl.1 (Or.inl (by decide)) (so_1 h0 g _) rfl cf_X8_passes wq598 wq6 wn674 (c_X8_passes l D g T h0 s21 hW.2.1 41 (by decide) hp22.1.1) ⟨rfl, rfl, ⟨by decide, by decide⟩, ⟨by decide, by decide⟩⟩ rfl rfl (Nat.le_of_ble_eq_true rfl) dX5_readPiece_77) hW (fun x25 s26 H locs rx25 hp27 hW => ?_)
    obtain ⟨fs26, hp27⟩ := hp27
    have hF28 := hF23.call fs26 (fun k h => by omega)
    have ghp27 := hp27.2
    refine x_if_eq (tgt := 87) hx hb rx25 dX5_readPiece_80 (by decide) (fun c29 => ?_) (fun c29 => ?_)
    · skip
      refine x_iconst hx hb dX5_readPiece_87 ?_
      rw [eQ]
      exact x_zret hx hb hr hlk hW (by omega) ⟨hF28, ⟨hp27.1.1, (hp27.1.2.1.trans (hp22.1.2.1.trans q8)), trivial⟩, by omega⟩ dX5_readPiece_88
    refine x_iconst hx hb dX5_readPiece_83 ?_
    refine lv_goto (tgt := 88) hx hb dX5_readPiece_84 (by decide) ?_
    rw [eQ]
    exact x_zret hx hb hr hlk hW (by omega) ⟨hF28, ⟨hp27.1.1, (hp27.1.2.1.trans (hp22.1.2.1.trans q8)), trivial⟩, by omega⟩ dX5_readPiece_88
  refine x_icmp_eq (tgt := 20) hx hb rx1 (by decide) dX5_readPiece_11 (by decide) (fun c30 => ?_) (fun c30 => ?_)
  · skip
    exact J20 ls (by omega)  (lv_sub hl [1, 2, 0] rfl)
  refine x_iload_n hx hb hl 0 rfl dX5_readPiece_14 rfl ?_
  refine x_bipush hx hb dX5_readPiece_15 (by decide) ?_
  refine x_icmp_ne (tgt := 109) hx hb rx1 (by decide) dX5_readPiece_17 (by decide) (fun c31 => ?_) (fun c31 => ?_)
  · skip
    refine x_aload_n hx hb hl 1 rfl dX5_readPiece_109 rfl ?_
    refine x_iload_n hx hb hl 2 rfl dX5_readPiece_110 rfl ?_
    refine x_goi (x_runV (As := [.int (xJ q)]) hx hb hml hown hT hE hW hl.1 (Or.inl (by decide)) (so_117 h0 g _) rfl cf_X5_readSum wq652 wq16 wq650 (c_X5_readSumL3 l D g T h0 s0 hW.2.1 q rq (by omega) p0) ⟨rfl, rfl, ⟨by decide, by decide⟩, ⟨by decide, by decide⟩⟩ rfl rfl (Nat.le_of_ble_eq_true rfl) dX5_readPiece_111) hW (fun x32 s33 H locs rx32 hp34 hW => ?_)
    obtain ⟨fs33, hp34⟩ := hp34
    have hF35 := hF.call fs33 (fun k h => by omega)
    have ghp34 := hp34.2
    refine x_if_ne (tgt := 119) hx hb rx32 dX5_readPiece_114 (by decide) (fun c36 => ?_) (fun c36 => ?_)
    · skip
      refine x_aload_n hx hb hl 1 rfl dX5_readPiece_119 rfl ?_
      refine x_get (j := 0) (v := .ref (h0 + 1)) hx hb hown hT hE hW cls_X5 (Or.inl (by decide)) (so_117 h0 g _) (by decide) rfl wq293 dX5_readPiece_120 ?_
      refine x_goi (x_runVN (As := []) hx hb hml hown hT hE hW hl.1 (Or.inl (by decide)) (so_1 h0 g _) rfl cf_X8_sign wq581 wq4 wn641 (c_X8_sign l D g T h0 s33 hW.2.1 hp34.1.1) ⟨rfl, rfl, ⟨by decide, by decide⟩, ⟨by decide, by decide⟩⟩ rfl rfl (Nat.le_of_ble_eq_true rfl) dX5_readPiece_123) hW (fun x37 s38 H locs rx37 hp39 hW => ?_)
      obtain ⟨es38, hp39⟩ := hp39
      subst es38
      have ghp39 := hp39
      refine lv_istore_n (lv' := [(3, .int (xJ x37)), (2, .int (xJ x1)), (0, .ref (h0 + 117)), (1, .int (xJ q))]) hx hb dX5_readPiece_126 rfl hl (by decide) rfl (fun ls hl => ?_)
      refine x_iload_n hx hb hl 0 rfl dX5_readPiece_127 rfl ?_
      refine x_bipush hx hb dX5_readPiece_128 (by decide) ?_
      have J161 : ∀ (ls : Array Slot), (x37 ≠ -1) → lv_has ls 5 [(0, .ref (h0 + 117)), (1, .int (xJ q)), (3, .int (xJ x37))] → W p l e { frames := 15, cells := 0, slots := 0, locals := 341 } s m args below meth c H locs 0 0 Q (F0 m 161 ls []) := by
        intro ls v161_0  hl
        refine x_aload_n hx hb hl 0 rfl dX5_readPiece_161 rfl ?_
        refine x_get (j := 0) (v := .ref (h0 + 1)) hx hb hown hT hE hW cls_X5 (Or.inl (by decide)) (so_117 h0 g _) (by decide) rfl wq293 dX5_readPiece_162 ?_
        refine lv_dup hx hb dX5_readPiece_165 rfl ?_
        refine x_getN (j := 3) (v := .int (xJ (s33 1 3))) hx hb hown hT hE hW cls_X8 (Or.inl (by decide)) (so_1 h0 g _) (by decide) rfl wn201 dX5_readPiece_166 ?_
        refine x_rd hW (fun x40 ex40 rx40 => ?_)
        refine x_iconst hx hb dX5_readPiece_169 ?_
        refine x_iadd hx hb dX5_readPiece_170 ?_
        refine x_putN (j := 3) hx hb hown hT hE hW cls_X8 (by decide) (fun σ => so_1 h0 g σ) (by decide) (st_X8_3 h0 s33 1 (x40 + 1)) (ln_X8_3 h0 _ _) wn201 rfl rfl rfl (by omega) dX5_readPiece_171 (fun H locs s41 es41 hW => ?_)
        have q42 : IC s41 := by rw [es41]; exact IC_1 hp34.1.1 (by omega)
        have q43 : s41 1 1 = s0 1 1 := (show s41 1 1 = s33 1 1 from by rw [es41, xU_j _ _ (by decide)]).trans (hp34.1.2.1.trans k1_1)
        have hF44 := hF35.put es41 (by omega)
        refine x_aload_n hx hb hl 0 rfl dX5_readPiece_174 rfl ?_
        refine x_iload_n hx hb hl 1 rfl dX5_readPiece_175 rfl ?_
        refine x_goi (x_runV (As := [.int (xJ q)]) hx hb hml hown hT hE hW hl.1 (Or.inl (by decide)) (so_117 h0 g _) rfl cf_X5_readSum wq652 wq16 wq650 (c_X5_readSumL3 l D g T h0 s41 hW.2.1 q rq (by omega) q42) ⟨rfl, rfl, ⟨by decide, by decide⟩, ⟨by decide, by decide⟩⟩ rfl rfl (Nat.le_of_ble_eq_true rfl) dX5_readPiece_176) hW (fun x45 s46 H locs rx45 hp47 hW => ?_)
        obtain ⟨fs46, hp47⟩ := hp47
        have hF48 := hF44.call fs46 (fun k h => by omega)
        have ghp47 := hp47.2
        refine lv_istore (lv' := [(4, .int (xJ x45)), (0, .ref (h0 + 117)), (1, .int (xJ q)), (3, .int (xJ x37))]) hx hb dX5_readPiece_179 hl (by decide) rfl (fun ls hl => ?_)
        refine x_aload_n hx hb hl 1 rfl dX5_readPiece_181 rfl ?_
        refine x_get (j := 1) (v := .ref (h0 + 118)) hx hb hown hT hE hW cls_X5 (Or.inl (by decide)) (so_117 h0 g _) (by decide) rfl wq294 dX5_readPiece_182 ?_
        refine x_iload_n hx hb hl 3 rfl dX5_readPiece_185 rfl ?_
        refine x_iconst hx hb dX5_readPiece_186 ?_
        refine x_goi (x_runVN (As := [.int (xJ x37), .int (xJ 0)]) hx hb hml hown hT hE hW hl.1 (Or.inl (by decide)) (so_118 h0 g _) rfl cf_X4_put wq672 wq21 wn670 (c_X4_put l D g T h0 s46 hW.2.1 x37 rx37 0 (by decide) hp47.1.1) ⟨rfl, rfl, ⟨by decide, by decide⟩, ⟨by decide, by decide⟩⟩ rfl rfl (Nat.le_of_ble_eq_true rfl) dX5_readPiece_187) hW (fun x49 s50 H locs rx49 hp51 hW => ?_)
        obtain ⟨fs50, hp51⟩ := hp51
        have hF52 := hF48.call fs50 (fun k h => by omega)
        have q53 : s50 1 1 = s0 1 1 := (congrFun (fs50 _ (by omega)) _).trans (hp47.1.2.1.trans q43)
        have ghp51 := hp51.2
        refine lv_pop hx hb dX5_readPiece_190 rfl ?_
        refine x_iload hx hb hl 0 rfl dX5_readPiece_191 ?_
        rw [eQ]
        exact x_zret hx hb hr hlk hW (by omega) ⟨hF52, ⟨hp51.1.1, q53, trivial⟩, by omega⟩ dX5_readPiece_193
      refine x_icmp_eq (tgt := 161) hx hb rx37 (by decide) dX5_readPiece_130 (by decide) (fun c54 => ?_) (fun c54 => ?_)
      · skip
        exact J161 ls (by omega)  (lv_sub hl [2, 3, 0] rfl)
      refine x_iload_n hx hb hl 0 rfl dX5_readPiece_133 rfl ?_
      refine x_bipush hx hb dX5_readPiece_134 (by decide) ?_
      refine x_icmp_eq (tgt := 161) hx hb rx37 (by decide) dX5_readPiece_136 (by decide) (fun c55 => ?_) (fun c55 => ?_)
      · skip
        exact J161 ls (by omega)  (lv_sub hl [2, 3, 0] rfl)
      refine x_iload_n hx hb hl 0 rfl dX5_readPiece_139 rfl ?_
      refine x_bipush hx hb dX5_readPiece_140 (by decide) ?_
      refine x_icmp_eq (tgt := 161) hx hb rx37 (by decide) dX5_readPiece_142 (by decide) (fun c56 => ?_) (fun c56 => ?_)
      · skip
        exact J161 ls (by omega)  (lv_sub hl [2, 3, 0] rfl)
      refine x_aload_n hx hb hl 2 rfl dX5_readPiece_145 rfl ?_
      refine x_get (j := 0) (v := .ref (h0 + 1)) hx hb hown hT hE hW cls_X5 (Or.inl (by decide)) (so_117 h0 g _) (by decide) rfl wq293 dX5_readPiece_146 ?_
      refine x_iconst hx hb dX5_readPiece_149 ?_
      refine x_aload_n hx hb hl 2 rfl dX5_readPiece_150 rfl ?_
      refine x_get (j := 0) (v := .ref (h0 + 1)) hx hb hown hT hE hW cls_X5 (Or.inl (by decide)) (so_117 h0 g _) (by decide) rfl wq293 dX5_readPiece_151 ?_
      refine x_getN (j := 3) (v := .int (xJ (s33 1 3))) hx hb hown hT hE hW cls_X8 (Or.inl (by decide)) (so_1 h0 g _) (by decide) rfl wn201 dX5_readPiece_154 ?_
      refine x_rd hW (fun x57 ex57 rx57 => ?_)
      refine x_goi (x_runVN (As := [.int (xJ 1), .int (xJ x57)]) hx hb hml hown hT hE hW hl.1 (Or.inl (by decide)) (so_1 h0 g _) rfl cf_X8_fails wq588 wq5 wn645 (c_X8_fails l D g T h0 s33 hW.2.1 1 (by decide) x57 rx57 hp34.1.1) ⟨rfl, rfl, ⟨by decide, by decide⟩, ⟨by decide, by decide⟩⟩ rfl rfl (Nat.le_of_ble_eq_true rfl) dX5_readPiece_157) hW (fun x58 s59 H locs rx58 hp60 hW => ?_)
      obtain ⟨fs59, hp60⟩ := hp60
      have hF61 := hF35.call fs59 (fun k h => by omega)
      have ghp60 := hp60.2
      rw [eQ]
      exact x_zret hx hb hr hlk hW (by omega) ⟨hF61, ⟨hp60.1.1, (hp60.1.2.1.trans (hp34.1.2.1.trans k1_1)), trivial⟩, by omega⟩ dX5_readPiece_160
    refine x_iconst hx hb dX5_readPiece_117 ?_
    rw [eQ]
    exact x_zret hx hb hr hlk hW (by omega) ⟨hF35, ⟨hp34.1.1, (hp34.1.2.1.trans k1_1), trivial⟩, by omega⟩ dX5_readPiece_118
  exact J20 ls (by omega)  (lv_sub hl [1, 2, 0] rfl)
set_option maxHeartbeats 4000000 in
set_option maxRecDepth 100000 in
theorem c_X5_readPiecesL3 (l : Launch) (D : va_G) (g : xG) (T : Nat × Nat × Nat) (h0 : Nat) (s0 : xS) (hσ : xRR s0) (q : Int) (rq : xR q) (hq : q = 3) (p0 : IC s0) : Met l yX5_readPieces (xws yX5_readPieces cX5_readPieces 4 (some .boolean)) { frames := 16, cells := 0, slots := 0, locals := 365 } (xP [.ref (h0 + 117), .int (xJ q)] D g T h0 s0) (xQi D g h0 (fun r τ => xFr (fun k => k = 1 ∨ k = 118 ∨ k = 119 ∨ k = 120) s0 τ ∧ (((IC τ) ∧ (τ 1 1 = s0 1 1) ∧ True) ∧ (r = 0 ∨ r = 1)))) 0 0 (xA h0) := by
  refine x_met hσ (by decide) (Nat.le_of_ble_eq_true rfl) ?_
  intro p e s m args below meth c hx hb hr hml hown hT hlk hnm hE hW ls hl
  have hl : lv_has ls 4 [(0, .ref (h0 + 117)), (1, .int (xJ q))] := hl
  obtain ⟨Q, eQ⟩ : ∃ Q, Q = MQ below (xQi D g h0 (fun r τ => xFr (fun k => k = 1 ∨ k = 118 ∨ k = 119 ∨ k = 120) s0 τ ∧ (((IC τ) ∧ (τ 1 1 = s0 1 1) ∧ True) ∧ (r = 0 ∨ r = 1)))) args s 0 0 (xA h0) := ⟨_, rfl⟩
  rw [← eQ]
  generalize hHe : ([] : List Loc) = locs at hW ⊢
  obtain ⟨H, eH⟩ : ∃ H, H = s.heap := ⟨_, rfl⟩
  rw [← eH] at hW ⊢
  have hF : xFr (fun k => k = 1 ∨ k = 118 ∨ k = 119 ∨ k = 120) s0 s0 := xFr.rf
  have k1_1 : s0 1 1 = s0 1 1 := rfl
  refine x_aload_n hx hb hl 0 rfl dX5_readPieces_0 rfl ?_
  refine x_iload_n hx hb hl 1 rfl dX5_readPieces_1 rfl ?_
  refine x_goi (x_runV (As := [.int (xJ q)]) hx hb hml hown hT hE hW hl.1 (Or.inl (by decide)) (so_117 h0 g _) rfl cf_X5_readPiece wq688 wq24 wq686 (c_X5_readPieceL3 l D g T h0 s0 hW.2.1 q rq (by omega) p0) ⟨rfl, rfl, ⟨by decide, by decide⟩, ⟨by decide, by decide⟩⟩ rfl rfl (Nat.le_of_ble_eq_true rfl) dX5_readPieces_2) hW (fun x1 s2 H locs rx1 hp3 hW => ?_)
  obtain ⟨fs2, hp3⟩ := hp3
  have hF4 := hF.call fs2 (fun k h => by omega)
  have ghp3 := hp3.2
  refine x_if_ne (tgt := 10) hx hb rx1 dX5_readPieces_5 (by decide) (fun c5 => ?_) (fun c5 => ?_)
  · skip
    refine x_iconst hx hb dX5_readPieces_10 ?_
    refine lv_istore_n (lv' := [(2, .int (xJ 0)), (0, .ref (h0 + 117)), (1, .int (xJ q))]) hx hb dX5_readPieces_11 rfl hl (by decide) rfl (fun ls hl => ?_)
    have L12 : ∀ (fu : Nat) (i2_12 : Int) (s_12 : xS) (H : Heap) (locs : List Loc) (ls : Array Slot), (xR i2_12) → (xFr (fun k => k = 1 ∨ k = 118 ∨ k = 119 ∨ k = 120) s0 s_12) → (IC s_12) → (s_12 1 1 = s0 1 1) → (0 ≤ i2_12) → (i2_12 ≤ 300) → (300 + 1 - i2_12).toNat < fu → xW D g h0 s H locs s_12 → lv_has ls 4 [(0, .ref (h0 + 117)), (1, .int (xJ q)), (2, .int (xJ i2_12))] → W p l e { frames := 16, cells := 0, slots := 0, locals := 365 } s m args below meth c H locs 0 0 Q (F0 m 12 ls []) := by
      intro fu
      induction fu with
      | zero => intro i2_12 s_12 H locs ls ri2_12 hF_12 q12_0 q12_1 v12_0 v12_1 hm; exact absurd hm (Nat.not_lt_zero _)
      | succ fu ih12 =>
        intro i2_12 s_12 H locs ls ri2_12 hF_12 q12_0 q12_1 v12_0 v12_1 hm hW hl
        refine x_iload_n hx hb hl 2 rfl dX5_readPieces_12 rfl ?_
        refine x_sipush hx hb dX5_readPieces_13 (by decide) ?_
        refine x_icmp_ge (tgt := 78) hx hb ri2_12 (by decide) dX5_readPieces_16 (by decide) (fun c6 => ?_) (fun c6 => ?_)
        · skip
          refine x_iconst hx hb dX5_readPieces_78 ?_
          rw [eQ]
          exact x_zret hx hb hr hlk hW (by omega) ⟨hF_12, ⟨q12_0, q12_1, trivial⟩, by omega⟩ dX5_readPieces_79
        refine x_aload_n hx hb hl 0 rfl dX5_readPieces_19 rfl ?_
        refine x_get (j := 0) (v := .ref (h0 + 1)) hx hb hown hT hE hW cls_X5 (Or.inl (by decide)) (so_117 h0 g _) (by decide) rfl wq293 dX5_readPieces_20 ?_
        refine x_goi (x_runVN (As := []) hx hb hml hown hT hE hW hl.1 (Or.inl (by decide)) (so_1 h0 g _) rfl cf_X8_sign wq581 wq4 wn641 (c_X8_sign l D g T h0 s_12 hW.2.1 q12_0) ⟨rfl, rfl, ⟨by decide, by decide⟩, ⟨by decide, by decide⟩⟩ rfl rfl (Nat.le_of_ble_eq_true rfl) dX5_readPieces_23) hW (fun x7 s8 H locs rx7 hp9 hW => ?_)
        obtain ⟨es8, hp9⟩ := hp9
        subst es8
        have ghp9 := hp9
        refine x_bipush hx hb dX5_readPieces_26 (by decide) ?_
        refine x_icmp_ne (tgt := 78) hx hb rx7 (by decide) dX5_readPieces_28 (by decide) (fun c10 => ?_) (fun c10 => ?_)
        · skip
          refine x_iconst hx hb dX5_readPieces_78 ?_
          rw [eQ]
          exact x_zret hx hb hr hlk hW (by omega) ⟨hF_12, ⟨q12_0, q12_1, trivial⟩, by omega⟩ dX5_readPieces_79
        refine x_aload_n hx hb hl 0 rfl dX5_readPieces_31 rfl ?_
        refine x_get (j := 0) (v := .ref (h0 + 1)) hx hb hown hT hE hW cls_X5 (Or.inl (by decide)) (so_117 h0 g _) (by decide) rfl wq293 dX5_readPieces_32 ?_
        refine lv_dup hx hb dX5_readPieces_35 rfl ?_
        refine x_getN (j := 3) (v := .int (xJ (s_12 1 3))) hx hb hown hT hE hW cls_X8 (Or.inl (by decide)) (so_1 h0 g _) (by decide) rfl wn201 dX5_readPieces_36 ?_
        refine x_rd hW (fun x11 ex11 rx11 => ?_)
        refine x_iconst hx hb dX5_readPieces_39 ?_
        refine x_iadd hx hb dX5_readPieces_40 ?_
        refine x_putN (j := 3) hx hb hown hT hE hW cls_X8 (by decide) (fun σ => so_1 h0 g σ) (by decide) (st_X8_3 h0 s_12 1 (x11 + 1)) (ln_X8_3 h0 _ _) wn201 rfl rfl rfl (by omega) dX5_readPieces_41 (fun H locs s12 es12 hW => ?_)
        have q13 : IC s12 := by rw [es12]; exact IC_1 q12_0 (by omega)
        have q14 : s12 1 1 = s0 1 1 := (show s12 1 1 = s_12 1 1 from by rw [es12, xU_j _ _ (by decide)]).trans q12_1
        have hF15 := hF_12.put es12 (by omega)
        refine x_aload_n hx hb hl 0 rfl dX5_readPieces_44 rfl ?_
        refine x_get (j := 1) (v := .ref (h0 + 118)) hx hb hown hT hE hW cls_X5 (Or.inl (by decide)) (so_117 h0 g _) (by decide) rfl wq294 dX5_readPieces_45 ?_
        refine x_iconst hx hb dX5_readPieces_48 ?_
        refine x_iconst hx hb dX5_readPieces_49 ?_
        refine x_goi (x_runVN (As := [.int (xJ 4), .int (xJ 0)]) hx hb hml hown hT hE hW hl.1 (Or.inl (by decide)) (so_118 h0 g _) rfl cf_X4_put wq672 wq21 wn670 (c_X4_put l D g T h0 s12 hW.2.1 4 (by decide) 0 (by decide) q13) ⟨rfl, rfl, ⟨by decide, by decide⟩, ⟨by decide, by decide⟩⟩ rfl rfl (Nat.le_of_ble_eq_true rfl) dX5_readPieces_50) hW (fun x16 s17 H locs rx16 hp18 hW => ?_)
        obtain ⟨fs17, hp18⟩ := hp18
        have hF19 := hF15.call fs17 (fun k h => by omega)
        have q20 : s17 1 1 = s0 1 1 := (congrFun (fs17 _ (by omega)) _).trans q14
        have ghp18 := hp18.2
        refine lv_istore_n (lv' := [(3, .int (xJ x16)), (0, .ref (h0 + 117)), (1, .int (xJ q)), (2, .int (xJ i2_12))]) hx hb dX5_readPieces_53 rfl hl (by decide) rfl (fun ls hl => ?_)
        refine x_aload_n hx hb hl 1 rfl dX5_readPieces_54 rfl ?_
        refine x_iload_n hx hb hl 2 rfl dX5_readPieces_55 rfl ?_
        refine x_goi (x_runV (As := [.int (xJ q)]) hx hb hml hown hT hE hW hl.1 (Or.inl (by decide)) (so_117 h0 g _) rfl cf_X5_readPiece wq688 wq24 wq686 (c_X5_readPieceL3 l D g T h0 s17 hW.2.1 q rq (by omega) hp18.1.1) ⟨rfl, rfl, ⟨by decide, by decide⟩, ⟨by decide, by decide⟩⟩ rfl rfl (Nat.le_of_ble_eq_true rfl) dX5_readPieces_56) hW (fun x21 s22 H locs rx21 hp23 hW => ?_)
        obtain ⟨fs22, hp23⟩ := hp23
        have hF24 := hF19.call fs22 (fun k h => by omega)
        have ghp23 := hp23.2
        refine x_if_ne (tgt := 64) hx hb rx21 dX5_readPieces_59 (by decide) (fun c25 => ?_) (fun c25 => ?_)
        · skip
          refine x_aload_n hx hb hl 1 rfl dX5_readPieces_64 rfl ?_
          refine x_get (j := 1) (v := .ref (h0 + 118)) hx hb hown hT hE hW cls_X5 (Or.inl (by decide)) (so_117 h0 g _) (by decide) rfl wq294 dX5_readPieces_65 ?_
          refine x_iload_n hx hb hl 0 rfl dX5_readPieces_68 rfl ?_
          refine x_gov (x_runVN (As := [.int (xJ x16)]) hx hb hml hown hT hE hW hl.1 (Or.inl (by decide)) (so_118 h0 g _) rfl cf_X4_landSkip wq692 wq25 wn690 (c_X4_landSkip l D g T h0 s22 hW.2.1 x16 rx16 hp23.1.1) ⟨rfl, rfl, ⟨by decide, by decide⟩, ⟨by decide, by decide⟩⟩ rfl rfl (Nat.le_of_ble_eq_true rfl) dX5_readPieces_69) hW (fun s27 H locs hp28 hW => ?_)
          obtain ⟨fs27, hp28⟩ := hp28
          have hF29 := hF24.call fs27 (fun k h => by omega)
          have q30 : s27 1 1 = s0 1 1 := (congrFun (fs27 _ (by omega)) _).trans (hp23.1.2.1.trans q20)
          have ghp28 := hp28.2
          refine x_iinc (lv' := [(2, .int (xJ (i2_12 + 1))), (3, .int (xJ x16)), (0, .ref (h0 + 117)), (1, .int (xJ q))]) hx hb hl 3 rfl dX5_readPieces_72 (by decide) rfl (fun ls hl => ?_)
          refine lv_goto (tgt := 12) hx hb dX5_readPieces_75 (by decide) ?_
          exact ih12 (i2_12 + 1) s27 H locs ls (by omega) hF29 hp28.1.1 q30 (by omega) (by omega) (by omega) hW (lv_sub hl [2, 3, 0] rfl)
        refine x_iconst hx hb dX5_readPieces_62 ?_
        rw [eQ]
        exact x_zret hx hb hr hlk hW (by omega) ⟨hF24, ⟨hp23.1.1, (hp23.1.2.1.trans q20), trivial⟩, by omega⟩ dX5_readPieces_63
    exact L12 ((300 + 1 - 0 : Int).toNat + 1) 0 s2 H locs ls (by decide) hF4 hp3.1.1 (hp3.1.2.1.trans k1_1) (by omega) (by omega) (Nat.lt_succ_self _) hW (lv_sub hl [1, 2, 0] rfl)
  refine x_iconst hx hb dX5_readPieces_8 ?_
  rw [eQ]
  exact x_zret hx hb hr hlk hW (by omega) ⟨hF4, ⟨hp3.1.1, (hp3.1.2.1.trans k1_1), trivial⟩, by omega⟩ dX5_readPieces_9
set_option maxHeartbeats 4000000 in
set_option maxRecDepth 100000 in
theorem c_X5_readPartsL3 (l : Launch) (D : va_G) (g : xG) (T : Nat × Nat × Nat) (h0 : Nat) (s0 : xS) (hσ : xRR s0) (q : Int) (rq : xR q) (hq : q = 3) (p0 : IC s0) : Met l yX5_readParts (xws yX5_readParts cX5_readParts 4 (some .boolean)) { frames := 17, cells := 0, slots := 0, locals := 388 } (xP [.ref (h0 + 117), .int (xJ q)] D g T h0 s0) (xQi D g h0 (fun r τ => xFr (fun k => k = 1 ∨ k = 118 ∨ k = 119 ∨ k = 120) s0 τ ∧ (((IC τ) ∧ (τ 1 1 = s0 1 1) ∧ True) ∧ (r = 0 ∨ r = 1)))) 0 0 (xA h0) := by
  refine x_met hσ (by decide) (Nat.le_of_ble_eq_true rfl) ?_
  intro p e s m args below meth c hx hb hr hml hown hT hlk hnm hE hW ls hl
  have hl : lv_has ls 4 [(0, .ref (h0 + 117)), (1, .int (xJ q))] := hl
  obtain ⟨Q, eQ⟩ : ∃ Q, Q = MQ below (xQi D g h0 (fun r τ => xFr (fun k => k = 1 ∨ k = 118 ∨ k = 119 ∨ k = 120) s0 τ ∧ (((IC τ) ∧ (τ 1 1 = s0 1 1) ∧ True) ∧ (r = 0 ∨ r = 1)))) args s 0 0 (xA h0) := ⟨_, rfl⟩
  rw [← eQ]
  generalize hHe : ([] : List Loc) = locs at hW ⊢
  obtain ⟨H, eH⟩ : ∃ H, H = s.heap := ⟨_, rfl⟩
  rw [← eH] at hW ⊢
  have hF : xFr (fun k => k = 1 ∨ k = 118 ∨ k = 119 ∨ k = 120) s0 s0 := xFr.rf
  have k1_1 : s0 1 1 = s0 1 1 := rfl
  refine x_aload_n hx hb hl 0 rfl dX5_readParts_0 rfl ?_
  refine x_iload_n hx hb hl 1 rfl dX5_readParts_1 rfl ?_
  refine x_goi (x_runV (As := [.int (xJ q)]) hx hb hml hown hT hE hW hl.1 (Or.inl (by decide)) (so_117 h0 g _) rfl cf_X5_readPieces wq684 wq23 wq682 (c_X5_readPiecesL3 l D g T h0 s0 hW.2.1 q rq (by omega) p0) ⟨rfl, rfl, ⟨by decide, by decide⟩, ⟨by decide, by decide⟩⟩ rfl rfl (Nat.le_of_ble_eq_true rfl) dX5_readParts_2) hW (fun x1 s2 H locs rx1 hp3 hW => ?_)
  obtain ⟨fs2, hp3⟩ := hp3
  have hF4 := hF.call fs2 (fun k h => by omega)
  have ghp3 := hp3.2
  refine x_if_ne (tgt := 10) hx hb rx1 dX5_readParts_5 (by decide) (fun c5 => ?_) (fun c5 => ?_)
  · skip
    refine x_iconst hx hb dX5_readParts_10 ?_
    refine lv_istore_n (lv' := [(2, .int (xJ 0)), (0, .ref (h0 + 117)), (1, .int (xJ q))]) hx hb dX5_readParts_11 rfl hl (by decide) rfl (fun ls hl => ?_)
    have L12 : ∀ (fu : Nat) (i2_12 : Int) (s_12 : xS) (H : Heap) (locs : List Loc) (ls : Array Slot), (xR i2_12) → (xFr (fun k => k = 1 ∨ k = 118 ∨ k = 119 ∨ k = 120) s0 s_12) → (IC s_12) → (s_12 1 1 = s0 1 1) → (0 ≤ i2_12) → (i2_12 ≤ 300) → (300 + 1 - i2_12).toNat < fu → xW D g h0 s H locs s_12 → lv_has ls 4 [(0, .ref (h0 + 117)), (1, .int (xJ q)), (2, .int (xJ i2_12))] → W p l e { frames := 17, cells := 0, slots := 0, locals := 388 } s m args below meth c H locs 0 0 Q (F0 m 12 ls []) := by
      intro fu
      induction fu with
      | zero => intro i2_12 s_12 H locs ls ri2_12 hF_12 q12_0 q12_1 v12_0 v12_1 hm; exact absurd hm (Nat.not_lt_zero _)
      | succ fu ih12 =>
        intro i2_12 s_12 H locs ls ri2_12 hF_12 q12_0 q12_1 v12_0 v12_1 hm hW hl
        refine x_iload_n hx hb hl 2 rfl dX5_readParts_12 rfl ?_
        refine x_sipush hx hb dX5_readParts_13 (by decide) ?_
        refine x_icmp_ge (tgt := 78) hx hb ri2_12 (by decide) dX5_readParts_16 (by decide) (fun c6 => ?_) (fun c6 => ?_)
        · skip
          refine x_iconst hx hb dX5_readParts_78 ?_
          rw [eQ]
          exact x_zret hx hb hr hlk hW (by omega) ⟨hF_12, ⟨q12_0, q12_1, trivial⟩, by omega⟩ dX5_readParts_79
        refine x_aload_n hx hb hl 0 rfl dX5_readParts_19 rfl ?_
        refine x_get (j := 0) (v := .ref (h0 + 1)) hx hb hown hT hE hW cls_X5 (Or.inl (by decide)) (so_117 h0 g _) (by decide) rfl wq293 dX5_readParts_20 ?_
        refine x_goi (x_runVN (As := []) hx hb hml hown hT hE hW hl.1 (Or.inl (by decide)) (so_1 h0 g _) rfl cf_X8_sign wq581 wq4 wn641 (c_X8_sign l D g T h0 s_12 hW.2.1 q12_0) ⟨rfl, rfl, ⟨by decide, by decide⟩, ⟨by decide, by decide⟩⟩ rfl rfl (Nat.le_of_ble_eq_true rfl) dX5_readParts_23) hW (fun x7 s8 H locs rx7 hp9 hW => ?_)
        obtain ⟨es8, hp9⟩ := hp9
        subst es8
        have ghp9 := hp9
        refine x_bipush hx hb dX5_readParts_26 (by decide) ?_
        refine x_icmp_ne (tgt := 78) hx hb rx7 (by decide) dX5_readParts_28 (by decide) (fun c10 => ?_) (fun c10 => ?_)
        · skip
          refine x_iconst hx hb dX5_readParts_78 ?_
          rw [eQ]
          exact x_zret hx hb hr hlk hW (by omega) ⟨hF_12, ⟨q12_0, q12_1, trivial⟩, by omega⟩ dX5_readParts_79
        refine x_aload_n hx hb hl 0 rfl dX5_readParts_31 rfl ?_
        refine x_get (j := 0) (v := .ref (h0 + 1)) hx hb hown hT hE hW cls_X5 (Or.inl (by decide)) (so_117 h0 g _) (by decide) rfl wq293 dX5_readParts_32 ?_
        refine lv_dup hx hb dX5_readParts_35 rfl ?_
        refine x_getN (j := 3) (v := .int (xJ (s_12 1 3))) hx hb hown hT hE hW cls_X8 (Or.inl (by decide)) (so_1 h0 g _) (by decide) rfl wn201 dX5_readParts_36 ?_
        refine x_rd hW (fun x11 ex11 rx11 => ?_)
        refine x_iconst hx hb dX5_readParts_39 ?_
        refine x_iadd hx hb dX5_readParts_40 ?_
        refine x_putN (j := 3) hx hb hown hT hE hW cls_X8 (by decide) (fun σ => so_1 h0 g σ) (by decide) (st_X8_3 h0 s_12 1 (x11 + 1)) (ln_X8_3 h0 _ _) wn201 rfl rfl rfl (by omega) dX5_readParts_41 (fun H locs s12 es12 hW => ?_)
        have q13 : IC s12 := by rw [es12]; exact IC_1 q12_0 (by omega)
        have q14 : s12 1 1 = s0 1 1 := (show s12 1 1 = s_12 1 1 from by rw [es12, xU_j _ _ (by decide)]).trans q12_1
        have hF15 := hF_12.put es12 (by omega)
        refine x_aload_n hx hb hl 0 rfl dX5_readParts_44 rfl ?_
        refine x_get (j := 1) (v := .ref (h0 + 118)) hx hb hown hT hE hW cls_X5 (Or.inl (by decide)) (so_117 h0 g _) (by decide) rfl wq294 dX5_readParts_45 ?_
        refine x_iconst hx hb dX5_readParts_48 ?_
        refine x_iconst hx hb dX5_readParts_49 ?_
        refine x_goi (x_runVN (As := [.int (xJ 5), .int (xJ 0)]) hx hb hml hown hT hE hW hl.1 (Or.inl (by decide)) (so_118 h0 g _) rfl cf_X4_put wq672 wq21 wn670 (c_X4_put l D g T h0 s12 hW.2.1 5 (by decide) 0 (by decide) q13) ⟨rfl, rfl, ⟨by decide, by decide⟩, ⟨by decide, by decide⟩⟩ rfl rfl (Nat.le_of_ble_eq_true rfl) dX5_readParts_50) hW (fun x16 s17 H locs rx16 hp18 hW => ?_)
        obtain ⟨fs17, hp18⟩ := hp18
        have hF19 := hF15.call fs17 (fun k h => by omega)
        have q20 : s17 1 1 = s0 1 1 := (congrFun (fs17 _ (by omega)) _).trans q14
        have ghp18 := hp18.2
        refine lv_istore_n (lv' := [(3, .int (xJ x16)), (0, .ref (h0 + 117)), (1, .int (xJ q)), (2, .int (xJ i2_12))]) hx hb dX5_readParts_53 rfl hl (by decide) rfl (fun ls hl => ?_)
        refine x_aload_n hx hb hl 1 rfl dX5_readParts_54 rfl ?_
        refine x_iload_n hx hb hl 2 rfl dX5_readParts_55 rfl ?_
        refine x_goi (x_runV (As := [.int (xJ q)]) hx hb hml hown hT hE hW hl.1 (Or.inl (by decide)) (so_117 h0 g _) rfl cf_X5_readPieces wq684 wq23 wq682 (c_X5_readPiecesL3 l D g T h0 s17 hW.2.1 q rq (by omega) hp18.1.1) ⟨rfl, rfl, ⟨by decide, by decide⟩, ⟨by decide, by decide⟩⟩ rfl rfl (Nat.le_of_ble_eq_true rfl) dX5_readParts_56) hW (fun x21 s22 H locs rx21 hp23 hW => ?_)
        obtain ⟨fs22, hp23⟩ := hp23
        have hF24 := hF19.call fs22 (fun k h => by omega)
        have ghp23 := hp23.2
        refine x_if_ne (tgt := 64) hx hb rx21 dX5_readParts_59 (by decide) (fun c25 => ?_) (fun c25 => ?_)
        · skip
          refine x_aload_n hx hb hl 1 rfl dX5_readParts_64 rfl ?_
          refine x_get (j := 1) (v := .ref (h0 + 118)) hx hb hown hT hE hW cls_X5 (Or.inl (by decide)) (so_117 h0 g _) (by decide) rfl wq294 dX5_readParts_65 ?_
          refine x_iload_n hx hb hl 0 rfl dX5_readParts_68 rfl ?_
          refine x_gov (x_runVN (As := [.int (xJ x16)]) hx hb hml hown hT hE hW hl.1 (Or.inl (by decide)) (so_118 h0 g _) rfl cf_X4_landSkip wq692 wq25 wn690 (c_X4_landSkip l D g T h0 s22 hW.2.1 x16 rx16 hp23.1.1) ⟨rfl, rfl, ⟨by decide, by decide⟩, ⟨by decide, by decide⟩⟩ rfl rfl (Nat.le_of_ble_eq_true rfl) dX5_readParts_69) hW (fun s27 H locs hp28 hW => ?_)
          obtain ⟨fs27, hp28⟩ := hp28
          have hF29 := hF24.call fs27 (fun k h => by omega)
          have q30 : s27 1 1 = s0 1 1 := (congrFun (fs27 _ (by omega)) _).trans (hp23.1.2.1.trans q20)
          have ghp28 := hp28.2
          refine x_iinc (lv' := [(2, .int (xJ (i2_12 + 1))), (3, .int (xJ x16)), (0, .ref (h0 + 117)), (1, .int (xJ q))]) hx hb hl 3 rfl dX5_readParts_72 (by decide) rfl (fun ls hl => ?_)
          refine lv_goto (tgt := 12) hx hb dX5_readParts_75 (by decide) ?_
          exact ih12 (i2_12 + 1) s27 H locs ls (by omega) hF29 hp28.1.1 q30 (by omega) (by omega) (by omega) hW (lv_sub hl [2, 3, 0] rfl)
        refine x_iconst hx hb dX5_readParts_62 ?_
        rw [eQ]
        exact x_zret hx hb hr hlk hW (by omega) ⟨hF24, ⟨hp23.1.1, (hp23.1.2.1.trans q20), trivial⟩, by omega⟩ dX5_readParts_63
    exact L12 ((300 + 1 - 0 : Int).toNat + 1) 0 s2 H locs ls (by decide) hF4 hp3.1.1 (hp3.1.2.1.trans k1_1) (by omega) (by omega) (Nat.lt_succ_self _) hW (lv_sub hl [1, 2, 0] rfl)
  refine x_iconst hx hb dX5_readParts_8 ?_
  rw [eQ]
  exact x_zret hx hb hr hlk hW (by omega) ⟨hF4, ⟨hp3.1.1, (hp3.1.2.1.trans k1_1), trivial⟩, by omega⟩ dX5_readParts_9
set_option maxHeartbeats 4000000 in
set_option maxRecDepth 100000 in
theorem c_X5_readPieceL2 (l : Launch) (D : va_G) (g : xG) (T : Nat × Nat × Nat) (h0 : Nat) (s0 : xS) (hσ : xRR s0) (q : Int) (rq : xR q) (hq : q = 2) (p0 : IC s0) : Met l yX5_readPiece (xws yX5_readPiece cX5_readPiece 5 (some .boolean)) { frames := 18, cells := 0, slots := 0, locals := 411 } (xP [.ref (h0 + 117), .int (xJ q)] D g T h0 s0) (xQi D g h0 (fun r τ => xFr (fun k => k = 1 ∨ k = 118 ∨ k = 119 ∨ k = 120) s0 τ ∧ (((IC τ) ∧ (τ 1 1 = s0 1 1) ∧ True) ∧ (r = 0 ∨ r = 1)))) 0 0 (xA h0) := by
  refine x_met hσ (by decide) (Nat.le_of_ble_eq_true rfl) ?_
  intro p e s m args below meth c hx hb hr hml hown hT hlk hnm hE hW ls hl
  have hl : lv_has ls 5 [(0, .ref (h0 + 117)), (1, .int (xJ q))] := hl
  obtain ⟨Q, eQ⟩ : ∃ Q, Q = MQ below (xQi D g h0 (fun r τ => xFr (fun k => k = 1 ∨ k = 118 ∨ k = 119 ∨ k = 120) s0 τ ∧ (((IC τ) ∧ (τ 1 1 = s0 1 1) ∧ True) ∧ (r = 0 ∨ r = 1)))) args s 0 0 (xA h0) := ⟨_, rfl⟩
  rw [← eQ]
  generalize hHe : ([] : List Loc) = locs at hW ⊢
  obtain ⟨H, eH⟩ : ∃ H, H = s.heap := ⟨_, rfl⟩
  rw [← eH] at hW ⊢
  have hF : xFr (fun k => k = 1 ∨ k = 118 ∨ k = 119 ∨ k = 120) s0 s0 := xFr.rf
  have k1_1 : s0 1 1 = s0 1 1 := rfl
  refine x_aload_n hx hb hl 0 rfl dX5_readPiece_0 rfl ?_
  refine x_get (j := 0) (v := .ref (h0 + 1)) hx hb hown hT hE hW cls_X5 (Or.inl (by decide)) (so_117 h0 g _) (by decide) rfl wq293 dX5_readPiece_1 ?_
  refine x_goi (x_runVN (As := []) hx hb hml hown hT hE hW hl.1 (Or.inl (by decide)) (so_1 h0 g _) rfl cf_X8_sign wq581 wq4 wn641 (c_X8_sign l D g T h0 s0 hW.2.1 p0) ⟨rfl, rfl, ⟨by decide, by decide⟩, ⟨by decide, by decide⟩⟩ rfl rfl (Nat.le_of_ble_eq_true rfl) dX5_readPiece_4) hW (fun x1 s2 H locs rx1 hp3 hW => ?_)
  obtain ⟨es2, hp3⟩ := hp3
  subst es2
  have ghp3 := hp3
  refine lv_istore_n (lv' := [(2, .int (xJ x1)), (0, .ref (h0 + 117)), (1, .int (xJ q))]) hx hb dX5_readPiece_7 rfl hl (by decide) rfl (fun ls hl => ?_)
  refine x_iload_n hx hb hl 0 rfl dX5_readPiece_8 rfl ?_
  refine x_bipush hx hb dX5_readPiece_9 (by decide) ?_
  have J20 : ∀ (ls : Array Slot), (0 ≤ s0 1 3 ∧ s0 1 3 < 260) → lv_has ls 5 [(0, .ref (h0 + 117)), (1, .int (xJ q)), (2, .int (xJ x1))] → W p l e { frames := 18, cells := 0, slots := 0, locals := 411 } s m args below meth c H locs 0 0 Q (F0 m 20 ls []) := by
    intro ls v20_0  hl
    refine x_iload_n hx hb hl 1 rfl dX5_readPiece_20 rfl ?_
    refine x_bipush hx hb dX5_readPiece_21 (by decide) ?_
    refine x_icmp_lt (tgt := 42) hx hb rq (by decide) dX5_readPiece_23 (by decide) (fun c4 => ?_) (fun c4 => False.elim (by omega))
    refine x_aload_n hx hb hl 0 rfl dX5_readPiece_42 rfl ?_
    refine x_get (j := 0) (v := .ref (h0 + 1)) hx hb hown hT hE hW cls_X5 (Or.inl (by decide)) (so_117 h0 g _) (by decide) rfl wq293 dX5_readPiece_43 ?_
    refine lv_dup hx hb dX5_readPiece_46 rfl ?_
    refine x_getN (j := 3) (v := .int (xJ (s0 1 3))) hx hb hown hT hE hW cls_X8 (Or.inl (by decide)) (so_1 h0 g _) (by decide) rfl wn201 dX5_readPiece_47 ?_
    refine x_rd hW (fun x5 ex5 rx5 => ?_)
    refine x_iconst hx hb dX5_readPiece_50 ?_
    refine x_iadd hx hb dX5_readPiece_51 ?_
    refine x_putN (j := 3) hx hb hown hT hE hW cls_X8 (by decide) (fun σ => so_1 h0 g σ) (by decide) (st_X8_3 h0 s0 1 (x5 + 1)) (ln_X8_3 h0 _ _) wn201 rfl rfl rfl (by omega) dX5_readPiece_52 (fun H locs s6 es6 hW => ?_)
    have q7 : IC s6 := by rw [es6]; exact IC_1 p0 (by omega)
    have q8 : s6 1 1 = s0 1 1 := (show s6 1 1 = s0 1 1 from by rw [es6, xU_j _ _ (by decide)]).trans k1_1
    have hF9 := hF.put es6 (by omega)
    refine x_iload_n hx hb hl 2 rfl dX5_readPiece_55 rfl ?_
    refine x_bipush hx hb dX5_readPiece_56 (by decide) ?_
    refine x_icmp_ne (tgt := 89) hx hb rx1 (by decide) dX5_readPiece_58 (by decide) (fun c10 => ?_) (fun c10 => ?_)
    · skip
      refine x_aload_n hx hb hl 0 rfl dX5_readPiece_89 rfl ?_
      refine x_iload_n hx hb hl 1 rfl dX5_readPiece_90 rfl ?_
      refine x_iconst hx hb dX5_readPiece_91 ?_
      refine x_iadd hx hb dX5_readPiece_92 ?_
      refine x_goi (x_runV (As := [.int (xJ (q + 1))]) hx hb hml hown hT hE hW hl.1 (Or.inl (by decide)) (so_117 h0 g _) rfl cf_X5_readPiece wq688 wq24 wq686 (c_X5_readPieceL3 l D g T h0 s6 hW.2.1 (q + 1) (by omega) (by omega) q7) ⟨rfl, rfl, ⟨by decide, by decide⟩, ⟨by decide, by decide⟩⟩ rfl rfl (Nat.le_of_ble_eq_true rfl) dX5_readPiece_93) hW (fun x11 s12 H locs rx11 hp13 hW => ?_)
      obtain ⟨fs12, hp13⟩ := hp13
      have hF14 := hF9.call fs12 (fun k h => by omega)
      have ghp13 := hp13.2
      refine lv_istore_n (lv' := [(3, .int (xJ x11)), (0, .ref (h0 + 117)), (1, .int (xJ q)), (2, .int (xJ x1))]) hx hb dX5_readPiece_96 rfl hl (by decide) rfl (fun ls hl => ?_)
      refine x_aload_n hx hb hl 1 rfl dX5_readPiece_97 rfl ?_
      refine x_get (j := 1) (v := .ref (h0 + 118)) hx hb hown hT hE hW cls_X5 (Or.inl (by decide)) (so_117 h0 g _) (by decide) rfl wq294 dX5_readPiece_98 ?_
      refine x_iconst hx hb dX5_readPiece_101 ?_
      refine x_iconst hx hb dX5_readPiece_102 ?_
      refine x_goi (x_runVN (As := [.int (xJ 3), .int (xJ 0)]) hx hb hml hown hT hE hW hl.1 (Or.inl (by decide)) (so_118 h0 g _) rfl cf_X4_put wq672 wq21 wn670 (c_X4_put l D g T h0 s12 hW.2.1 3 (by decide) 0 (by decide) hp13.1.1) ⟨rfl, rfl, ⟨by decide, by decide⟩, ⟨by decide, by decide⟩⟩ rfl rfl (Nat.le_of_ble_eq_true rfl) dX5_readPiece_103) hW (fun x15 s16 H locs rx15 hp17 hW => ?_)
      obtain ⟨fs16, hp17⟩ := hp17
      have hF18 := hF14.call fs16 (fun k h => by omega)
      have q19 : s16 1 1 = s0 1 1 := (congrFun (fs16 _ (by omega)) _).trans (hp13.1.2.1.trans q8)
      have ghp17 := hp17.2
      refine lv_pop hx hb dX5_readPiece_106 rfl ?_
      refine x_iload_n hx hb hl 0 rfl dX5_readPiece_107 rfl ?_
      rw [eQ]
      exact x_zret hx hb hr hlk hW (by omega) ⟨hF18, ⟨hp17.1.1, q19, trivial⟩, by omega⟩ dX5_readPiece_108
    refine x_aload_n hx hb hl 0 rfl dX5_readPiece_61 rfl ?_
    refine x_iload_n hx hb hl 1 rfl dX5_readPiece_62 rfl ?_
    refine x_iconst hx hb dX5_readPiece_63 ?_
    refine x_iadd hx hb dX5_readPiece_64 ?_
    refine x_goi (x_runV (As := [.int (xJ (q + 1))]) hx hb hml hown hT hE hW hl.1 (Or.inl (by decide)) (so_117 h0 g _) rfl cf_X5_readParts wq680 wq22 wq678 (c_X5_readPartsL3 l D g T h0 s6 hW.2.1 (q + 1) (by omega) (by omega) q7) ⟨rfl, rfl, ⟨by decide, by decide⟩, ⟨by decide, by decide⟩⟩ rfl rfl (Nat.le_of_ble_eq_true rfl) dX5_readPiece_65) hW (fun x20 s21 H locs rx20 hp22 hW => ?_)
    obtain ⟨fs21, hp22⟩ := hp22
    have hF23 := hF9.call fs21 (fun k h => by omega)
    have ghp22 := hp22.2
    refine x_if_eq (tgt := 87) hx hb rx20 dX5_readPiece_68 (by decide) (fun c24 => ?_) (fun c24 => ?_)
    · skip
      refine x_iconst hx hb dX5_readPiece_87 ?_
      rw [eQ]
      exact x_zret hx hb hr hlk hW (by omega) ⟨hF23, ⟨hp22.1.1, (hp22.1.2.1.trans q8), trivial⟩, by omega⟩ dX5_readPiece_88
    refine x_aload_n hx hb hl 0 rfl dX5_readPiece_71 rfl ?_
    refine x_get (j := 0) (v := .ref (h0 + 1)) hx hb hown hT hE hW cls_X5 (Or.inl (by decide)) (so_117 h0 g _) (by decide) rfl wq293 dX5_readPiece_72 ?_
    refine x_bipush hx hb dX5_readPiece_75 (by decide) ?_
    refine x_goi (x_runVN (As := [.int (xJ 41)]) hx hb hml hown hT hE hW hl.1 (Or.inl (by decide)) (so_1 h0 g _) rfl cf_X8_passes wq598 wq6 wn674 (c_X8_passes l D g T h0 s21 hW.2.1 41 (by decide) hp22.1.1) ⟨rfl, rfl, ⟨by decide, by decide⟩, ⟨by decide, by decide⟩⟩ rfl rfl (Nat.le_of_ble_eq_true rfl) dX5_readPiece_77) hW (fun x25 s26 H locs rx25 hp27 hW => ?_)
    obtain ⟨fs26, hp27⟩ := hp27
    have hF28 := hF23.call fs26 (fun k h => by omega)
    have ghp27 := hp27.2
    refine x_if_eq (tgt := 87) hx hb rx25 dX5_readPiece_80 (by decide) (fun c29 => ?_) (fun c29 => ?_)
    · skip
      refine x_iconst hx hb dX5_readPiece_87 ?_
      rw [eQ]
      exact x_zret hx hb hr hlk hW (by omega) ⟨hF28, ⟨hp27.1.1, (hp27.1.2.1.trans (hp22.1.2.1.trans q8)), trivial⟩, by omega⟩ dX5_readPiece_88
    refine x_iconst hx hb dX5_readPiece_83 ?_
    refine lv_goto (tgt := 88) hx hb dX5_readPiece_84 (by decide) ?_
    rw [eQ]
    exact x_zret hx hb hr hlk hW (by omega) ⟨hF28, ⟨hp27.1.1, (hp27.1.2.1.trans (hp22.1.2.1.trans q8)), trivial⟩, by omega⟩ dX5_readPiece_88
  refine x_icmp_eq (tgt := 20) hx hb rx1 (by decide) dX5_readPiece_11 (by decide) (fun c30 => ?_) (fun c30 => ?_)
  · skip
    exact J20 ls (by omega)  (lv_sub hl [1, 2, 0] rfl)
  refine x_iload_n hx hb hl 0 rfl dX5_readPiece_14 rfl ?_
  refine x_bipush hx hb dX5_readPiece_15 (by decide) ?_
  refine x_icmp_ne (tgt := 109) hx hb rx1 (by decide) dX5_readPiece_17 (by decide) (fun c31 => ?_) (fun c31 => ?_)
  · skip
    refine x_aload_n hx hb hl 1 rfl dX5_readPiece_109 rfl ?_
    refine x_iload_n hx hb hl 2 rfl dX5_readPiece_110 rfl ?_
    refine x_goi (x_runV (As := [.int (xJ q)]) hx hb hml hown hT hE hW hl.1 (Or.inl (by decide)) (so_117 h0 g _) rfl cf_X5_readSum wq652 wq16 wq650 (c_X5_readSumL2 l D g T h0 s0 hW.2.1 q rq (by omega) p0) ⟨rfl, rfl, ⟨by decide, by decide⟩, ⟨by decide, by decide⟩⟩ rfl rfl (Nat.le_of_ble_eq_true rfl) dX5_readPiece_111) hW (fun x32 s33 H locs rx32 hp34 hW => ?_)
    obtain ⟨fs33, hp34⟩ := hp34
    have hF35 := hF.call fs33 (fun k h => by omega)
    have ghp34 := hp34.2
    refine x_if_ne (tgt := 119) hx hb rx32 dX5_readPiece_114 (by decide) (fun c36 => ?_) (fun c36 => ?_)
    · skip
      refine x_aload_n hx hb hl 1 rfl dX5_readPiece_119 rfl ?_
      refine x_get (j := 0) (v := .ref (h0 + 1)) hx hb hown hT hE hW cls_X5 (Or.inl (by decide)) (so_117 h0 g _) (by decide) rfl wq293 dX5_readPiece_120 ?_
      refine x_goi (x_runVN (As := []) hx hb hml hown hT hE hW hl.1 (Or.inl (by decide)) (so_1 h0 g _) rfl cf_X8_sign wq581 wq4 wn641 (c_X8_sign l D g T h0 s33 hW.2.1 hp34.1.1) ⟨rfl, rfl, ⟨by decide, by decide⟩, ⟨by decide, by decide⟩⟩ rfl rfl (Nat.le_of_ble_eq_true rfl) dX5_readPiece_123) hW (fun x37 s38 H locs rx37 hp39 hW => ?_)
      obtain ⟨es38, hp39⟩ := hp39
      subst es38
      have ghp39 := hp39
      refine lv_istore_n (lv' := [(3, .int (xJ x37)), (2, .int (xJ x1)), (0, .ref (h0 + 117)), (1, .int (xJ q))]) hx hb dX5_readPiece_126 rfl hl (by decide) rfl (fun ls hl => ?_)
      refine x_iload_n hx hb hl 0 rfl dX5_readPiece_127 rfl ?_
      refine x_bipush hx hb dX5_readPiece_128 (by decide) ?_
      have J161 : ∀ (ls : Array Slot), (x37 ≠ -1) → lv_has ls 5 [(0, .ref (h0 + 117)), (1, .int (xJ q)), (3, .int (xJ x37))] → W p l e { frames := 18, cells := 0, slots := 0, locals := 411 } s m args below meth c H locs 0 0 Q (F0 m 161 ls []) := by
        intro ls v161_0  hl
        refine x_aload_n hx hb hl 0 rfl dX5_readPiece_161 rfl ?_
        refine x_get (j := 0) (v := .ref (h0 + 1)) hx hb hown hT hE hW cls_X5 (Or.inl (by decide)) (so_117 h0 g _) (by decide) rfl wq293 dX5_readPiece_162 ?_
        refine lv_dup hx hb dX5_readPiece_165 rfl ?_
        refine x_getN (j := 3) (v := .int (xJ (s33 1 3))) hx hb hown hT hE hW cls_X8 (Or.inl (by decide)) (so_1 h0 g _) (by decide) rfl wn201 dX5_readPiece_166 ?_
        refine x_rd hW (fun x40 ex40 rx40 => ?_)
        refine x_iconst hx hb dX5_readPiece_169 ?_
        refine x_iadd hx hb dX5_readPiece_170 ?_
        refine x_putN (j := 3) hx hb hown hT hE hW cls_X8 (by decide) (fun σ => so_1 h0 g σ) (by decide) (st_X8_3 h0 s33 1 (x40 + 1)) (ln_X8_3 h0 _ _) wn201 rfl rfl rfl (by omega) dX5_readPiece_171 (fun H locs s41 es41 hW => ?_)
        have q42 : IC s41 := by rw [es41]; exact IC_1 hp34.1.1 (by omega)
        have q43 : s41 1 1 = s0 1 1 := (show s41 1 1 = s33 1 1 from by rw [es41, xU_j _ _ (by decide)]).trans (hp34.1.2.1.trans k1_1)
        have hF44 := hF35.put es41 (by omega)
        refine x_aload_n hx hb hl 0 rfl dX5_readPiece_174 rfl ?_
        refine x_iload_n hx hb hl 1 rfl dX5_readPiece_175 rfl ?_
        refine x_goi (x_runV (As := [.int (xJ q)]) hx hb hml hown hT hE hW hl.1 (Or.inl (by decide)) (so_117 h0 g _) rfl cf_X5_readSum wq652 wq16 wq650 (c_X5_readSumL2 l D g T h0 s41 hW.2.1 q rq (by omega) q42) ⟨rfl, rfl, ⟨by decide, by decide⟩, ⟨by decide, by decide⟩⟩ rfl rfl (Nat.le_of_ble_eq_true rfl) dX5_readPiece_176) hW (fun x45 s46 H locs rx45 hp47 hW => ?_)
        obtain ⟨fs46, hp47⟩ := hp47
        have hF48 := hF44.call fs46 (fun k h => by omega)
        have ghp47 := hp47.2
        refine lv_istore (lv' := [(4, .int (xJ x45)), (0, .ref (h0 + 117)), (1, .int (xJ q)), (3, .int (xJ x37))]) hx hb dX5_readPiece_179 hl (by decide) rfl (fun ls hl => ?_)
        refine x_aload_n hx hb hl 1 rfl dX5_readPiece_181 rfl ?_
        refine x_get (j := 1) (v := .ref (h0 + 118)) hx hb hown hT hE hW cls_X5 (Or.inl (by decide)) (so_117 h0 g _) (by decide) rfl wq294 dX5_readPiece_182 ?_
        refine x_iload_n hx hb hl 3 rfl dX5_readPiece_185 rfl ?_
        refine x_iconst hx hb dX5_readPiece_186 ?_
        refine x_goi (x_runVN (As := [.int (xJ x37), .int (xJ 0)]) hx hb hml hown hT hE hW hl.1 (Or.inl (by decide)) (so_118 h0 g _) rfl cf_X4_put wq672 wq21 wn670 (c_X4_put l D g T h0 s46 hW.2.1 x37 rx37 0 (by decide) hp47.1.1) ⟨rfl, rfl, ⟨by decide, by decide⟩, ⟨by decide, by decide⟩⟩ rfl rfl (Nat.le_of_ble_eq_true rfl) dX5_readPiece_187) hW (fun x49 s50 H locs rx49 hp51 hW => ?_)
        obtain ⟨fs50, hp51⟩ := hp51
        have hF52 := hF48.call fs50 (fun k h => by omega)
        have q53 : s50 1 1 = s0 1 1 := (congrFun (fs50 _ (by omega)) _).trans (hp47.1.2.1.trans q43)
        have ghp51 := hp51.2
        refine lv_pop hx hb dX5_readPiece_190 rfl ?_
        refine x_iload hx hb hl 0 rfl dX5_readPiece_191 ?_
        rw [eQ]
        exact x_zret hx hb hr hlk hW (by omega) ⟨hF52, ⟨hp51.1.1, q53, trivial⟩, by omega⟩ dX5_readPiece_193
      refine x_icmp_eq (tgt := 161) hx hb rx37 (by decide) dX5_readPiece_130 (by decide) (fun c54 => ?_) (fun c54 => ?_)
      · skip
        exact J161 ls (by omega)  (lv_sub hl [2, 3, 0] rfl)
      refine x_iload_n hx hb hl 0 rfl dX5_readPiece_133 rfl ?_
      refine x_bipush hx hb dX5_readPiece_134 (by decide) ?_
      refine x_icmp_eq (tgt := 161) hx hb rx37 (by decide) dX5_readPiece_136 (by decide) (fun c55 => ?_) (fun c55 => ?_)
      · skip
        exact J161 ls (by omega)  (lv_sub hl [2, 3, 0] rfl)
      refine x_iload_n hx hb hl 0 rfl dX5_readPiece_139 rfl ?_
      refine x_bipush hx hb dX5_readPiece_140 (by decide) ?_
      refine x_icmp_eq (tgt := 161) hx hb rx37 (by decide) dX5_readPiece_142 (by decide) (fun c56 => ?_) (fun c56 => ?_)
      · skip
        exact J161 ls (by omega)  (lv_sub hl [2, 3, 0] rfl)
      refine x_aload_n hx hb hl 2 rfl dX5_readPiece_145 rfl ?_
      refine x_get (j := 0) (v := .ref (h0 + 1)) hx hb hown hT hE hW cls_X5 (Or.inl (by decide)) (so_117 h0 g _) (by decide) rfl wq293 dX5_readPiece_146 ?_
      refine x_iconst hx hb dX5_readPiece_149 ?_
      refine x_aload_n hx hb hl 2 rfl dX5_readPiece_150 rfl ?_
      refine x_get (j := 0) (v := .ref (h0 + 1)) hx hb hown hT hE hW cls_X5 (Or.inl (by decide)) (so_117 h0 g _) (by decide) rfl wq293 dX5_readPiece_151 ?_
      refine x_getN (j := 3) (v := .int (xJ (s33 1 3))) hx hb hown hT hE hW cls_X8 (Or.inl (by decide)) (so_1 h0 g _) (by decide) rfl wn201 dX5_readPiece_154 ?_
      refine x_rd hW (fun x57 ex57 rx57 => ?_)
      refine x_goi (x_runVN (As := [.int (xJ 1), .int (xJ x57)]) hx hb hml hown hT hE hW hl.1 (Or.inl (by decide)) (so_1 h0 g _) rfl cf_X8_fails wq588 wq5 wn645 (c_X8_fails l D g T h0 s33 hW.2.1 1 (by decide) x57 rx57 hp34.1.1) ⟨rfl, rfl, ⟨by decide, by decide⟩, ⟨by decide, by decide⟩⟩ rfl rfl (Nat.le_of_ble_eq_true rfl) dX5_readPiece_157) hW (fun x58 s59 H locs rx58 hp60 hW => ?_)
      obtain ⟨fs59, hp60⟩ := hp60
      have hF61 := hF35.call fs59 (fun k h => by omega)
      have ghp60 := hp60.2
      rw [eQ]
      exact x_zret hx hb hr hlk hW (by omega) ⟨hF61, ⟨hp60.1.1, (hp60.1.2.1.trans (hp34.1.2.1.trans k1_1)), trivial⟩, by omega⟩ dX5_readPiece_160
    refine x_iconst hx hb dX5_readPiece_117 ?_
    rw [eQ]
    exact x_zret hx hb hr hlk hW (by omega) ⟨hF35, ⟨hp34.1.1, (hp34.1.2.1.trans k1_1), trivial⟩, by omega⟩ dX5_readPiece_118
  exact J20 ls (by omega)  (lv_sub hl [1, 2, 0] rfl)
set_option maxHeartbeats 4000000 in
set_option maxRecDepth 100000 in
theorem c_X5_readPiecesL2 (l : Launch) (D : va_G) (g : xG) (T : Nat × Nat × Nat) (h0 : Nat) (s0 : xS) (hσ : xRR s0) (q : Int) (rq : xR q) (hq : q = 2) (p0 : IC s0) : Met l yX5_readPieces (xws yX5_readPieces cX5_readPieces 4 (some .boolean)) { frames := 19, cells := 0, slots := 0, locals := 435 } (xP [.ref (h0 + 117), .int (xJ q)] D g T h0 s0) (xQi D g h0 (fun r τ => xFr (fun k => k = 1 ∨ k = 118 ∨ k = 119 ∨ k = 120) s0 τ ∧ (((IC τ) ∧ (τ 1 1 = s0 1 1) ∧ True) ∧ (r = 0 ∨ r = 1)))) 0 0 (xA h0) := by
  refine x_met hσ (by decide) (Nat.le_of_ble_eq_true rfl) ?_
  intro p e s m args below meth c hx hb hr hml hown hT hlk hnm hE hW ls hl
  have hl : lv_has ls 4 [(0, .ref (h0 + 117)), (1, .int (xJ q))] := hl
  obtain ⟨Q, eQ⟩ : ∃ Q, Q = MQ below (xQi D g h0 (fun r τ => xFr (fun k => k = 1 ∨ k = 118 ∨ k = 119 ∨ k = 120) s0 τ ∧ (((IC τ) ∧ (τ 1 1 = s0 1 1) ∧ True) ∧ (r = 0 ∨ r = 1)))) args s 0 0 (xA h0) := ⟨_, rfl⟩
  rw [← eQ]
  generalize hHe : ([] : List Loc) = locs at hW ⊢
  obtain ⟨H, eH⟩ : ∃ H, H = s.heap := ⟨_, rfl⟩
  rw [← eH] at hW ⊢
  have hF : xFr (fun k => k = 1 ∨ k = 118 ∨ k = 119 ∨ k = 120) s0 s0 := xFr.rf
  have k1_1 : s0 1 1 = s0 1 1 := rfl
  refine x_aload_n hx hb hl 0 rfl dX5_readPieces_0 rfl ?_
  refine x_iload_n hx hb hl 1 rfl dX5_readPieces_1 rfl ?_
  refine x_goi (x_runV (As := [.int (xJ q)]) hx hb hml hown hT hE hW hl.1 (Or.inl (by decide)) (so_117 h0 g _) rfl cf_X5_readPiece wq688 wq24 wq686 (c_X5_readPieceL2 l D g T h0 s0 hW.2.1 q rq (by omega) p0) ⟨rfl, rfl, ⟨by decide, by decide⟩, ⟨by decide, by decide⟩⟩ rfl rfl (Nat.le_of_ble_eq_true rfl) dX5_readPieces_2) hW (fun x1 s2 H locs rx1 hp3 hW => ?_)
  obtain ⟨fs2, hp3⟩ := hp3
  have hF4 := hF.call fs2 (fun k h => by omega)
  have ghp3 := hp3.2
  refine x_if_ne (tgt := 10) hx hb rx1 dX5_readPieces_5 (by decide) (fun c5 => ?_) (fun c5 => ?_)
  · skip
    refine x_iconst hx hb dX5_readPieces_10 ?_
    refine lv_istore_n (lv' := [(2, .int (xJ 0)), (0, .ref (h0 + 117)), (1, .int (xJ q))]) hx hb dX5_readPieces_11 rfl hl (by decide) rfl (fun ls hl => ?_)
    have L12 : ∀ (fu : Nat) (i2_12 : Int) (s_12 : xS) (H : Heap) (locs : List Loc) (ls : Array Slot), (xR i2_12) → (xFr (fun k => k = 1 ∨ k = 118 ∨ k = 119 ∨ k = 120) s0 s_12) → (IC s_12) → (s_12 1 1 = s0 1 1) → (0 ≤ i2_12) → (i2_12 ≤ 300) → (300 + 1 - i2_12).toNat < fu → xW D g h0 s H locs s_12 → lv_has ls 4 [(0, .ref (h0 + 117)), (1, .int (xJ q)), (2, .int (xJ i2_12))] → W p l e { frames := 19, cells := 0, slots := 0, locals := 435 } s m args below meth c H locs 0 0 Q (F0 m 12 ls []) := by
      intro fu
      induction fu with
      | zero => intro i2_12 s_12 H locs ls ri2_12 hF_12 q12_0 q12_1 v12_0 v12_1 hm; exact absurd hm (Nat.not_lt_zero _)
      | succ fu ih12 =>
        intro i2_12 s_12 H locs ls ri2_12 hF_12 q12_0 q12_1 v12_0 v12_1 hm hW hl
        refine x_iload_n hx hb hl 2 rfl dX5_readPieces_12 rfl ?_
        refine x_sipush hx hb dX5_readPieces_13 (by decide) ?_
        refine x_icmp_ge (tgt := 78) hx hb ri2_12 (by decide) dX5_readPieces_16 (by decide) (fun c6 => ?_) (fun c6 => ?_)
        · skip
          refine x_iconst hx hb dX5_readPieces_78 ?_
          rw [eQ]
          exact x_zret hx hb hr hlk hW (by omega) ⟨hF_12, ⟨q12_0, q12_1, trivial⟩, by omega⟩ dX5_readPieces_79
        refine x_aload_n hx hb hl 0 rfl dX5_readPieces_19 rfl ?_
        refine x_get (j := 0) (v := .ref (h0 + 1)) hx hb hown hT hE hW cls_X5 (Or.inl (by decide)) (so_117 h0 g _) (by decide) rfl wq293 dX5_readPieces_20 ?_
        refine x_goi (x_runVN (As := []) hx hb hml hown hT hE hW hl.1 (Or.inl (by decide)) (so_1 h0 g _) rfl cf_X8_sign wq581 wq4 wn641 (c_X8_sign l D g T h0 s_12 hW.2.1 q12_0) ⟨rfl, rfl, ⟨by decide, by decide⟩, ⟨by decide, by decide⟩⟩ rfl rfl (Nat.le_of_ble_eq_true rfl) dX5_readPieces_23) hW (fun x7 s8 H locs rx7 hp9 hW => ?_)
        obtain ⟨es8, hp9⟩ := hp9
        subst es8
        have ghp9 := hp9
        refine x_bipush hx hb dX5_readPieces_26 (by decide) ?_
        refine x_icmp_ne (tgt := 78) hx hb rx7 (by decide) dX5_readPieces_28 (by decide) (fun c10 => ?_) (fun c10 => ?_)
        · skip
          refine x_iconst hx hb dX5_readPieces_78 ?_
          rw [eQ]
          exact x_zret hx hb hr hlk hW (by omega) ⟨hF_12, ⟨q12_0, q12_1, trivial⟩, by omega⟩ dX5_readPieces_79
        refine x_aload_n hx hb hl 0 rfl dX5_readPieces_31 rfl ?_
        refine x_get (j := 0) (v := .ref (h0 + 1)) hx hb hown hT hE hW cls_X5 (Or.inl (by decide)) (so_117 h0 g _) (by decide) rfl wq293 dX5_readPieces_32 ?_
        refine lv_dup hx hb dX5_readPieces_35 rfl ?_
        refine x_getN (j := 3) (v := .int (xJ (s_12 1 3))) hx hb hown hT hE hW cls_X8 (Or.inl (by decide)) (so_1 h0 g _) (by decide) rfl wn201 dX5_readPieces_36 ?_
        refine x_rd hW (fun x11 ex11 rx11 => ?_)
        refine x_iconst hx hb dX5_readPieces_39 ?_
        refine x_iadd hx hb dX5_readPieces_40 ?_
        refine x_putN (j := 3) hx hb hown hT hE hW cls_X8 (by decide) (fun σ => so_1 h0 g σ) (by decide) (st_X8_3 h0 s_12 1 (x11 + 1)) (ln_X8_3 h0 _ _) wn201 rfl rfl rfl (by omega) dX5_readPieces_41 (fun H locs s12 es12 hW => ?_)
        have q13 : IC s12 := by rw [es12]; exact IC_1 q12_0 (by omega)
        have q14 : s12 1 1 = s0 1 1 := (show s12 1 1 = s_12 1 1 from by rw [es12, xU_j _ _ (by decide)]).trans q12_1
        have hF15 := hF_12.put es12 (by omega)
        refine x_aload_n hx hb hl 0 rfl dX5_readPieces_44 rfl ?_
        refine x_get (j := 1) (v := .ref (h0 + 118)) hx hb hown hT hE hW cls_X5 (Or.inl (by decide)) (so_117 h0 g _) (by decide) rfl wq294 dX5_readPieces_45 ?_
        refine x_iconst hx hb dX5_readPieces_48 ?_
        refine x_iconst hx hb dX5_readPieces_49 ?_
        refine x_goi (x_runVN (As := [.int (xJ 4), .int (xJ 0)]) hx hb hml hown hT hE hW hl.1 (Or.inl (by decide)) (so_118 h0 g _) rfl cf_X4_put wq672 wq21 wn670 (c_X4_put l D g T h0 s12 hW.2.1 4 (by decide) 0 (by decide) q13) ⟨rfl, rfl, ⟨by decide, by decide⟩, ⟨by decide, by decide⟩⟩ rfl rfl (Nat.le_of_ble_eq_true rfl) dX5_readPieces_50) hW (fun x16 s17 H locs rx16 hp18 hW => ?_)
        obtain ⟨fs17, hp18⟩ := hp18
        have hF19 := hF15.call fs17 (fun k h => by omega)
        have q20 : s17 1 1 = s0 1 1 := (congrFun (fs17 _ (by omega)) _).trans q14
        have ghp18 := hp18.2
        refine lv_istore_n (lv' := [(3, .int (xJ x16)), (0, .ref (h0 + 117)), (1, .int (xJ q)), (2, .int (xJ i2_12))]) hx hb dX5_readPieces_53 rfl hl (by decide) rfl (fun ls hl => ?_)
        refine x_aload_n hx hb hl 1 rfl dX5_readPieces_54 rfl ?_
        refine x_iload_n hx hb hl 2 rfl dX5_readPieces_55 rfl ?_
        refine x_goi (x_runV (As := [.int (xJ q)]) hx hb hml hown hT hE hW hl.1 (Or.inl (by decide)) (so_117 h0 g _) rfl cf_X5_readPiece wq688 wq24 wq686 (c_X5_readPieceL2 l D g T h0 s17 hW.2.1 q rq (by omega) hp18.1.1) ⟨rfl, rfl, ⟨by decide, by decide⟩, ⟨by decide, by decide⟩⟩ rfl rfl (Nat.le_of_ble_eq_true rfl) dX5_readPieces_56) hW (fun x21 s22 H locs rx21 hp23 hW => ?_)
        obtain ⟨fs22, hp23⟩ := hp23
        have hF24 := hF19.call fs22 (fun k h => by omega)
        have ghp23 := hp23.2
        refine x_if_ne (tgt := 64) hx hb rx21 dX5_readPieces_59 (by decide) (fun c25 => ?_) (fun c25 => ?_)
        · skip
          refine x_aload_n hx hb hl 1 rfl dX5_readPieces_64 rfl ?_
          refine x_get (j := 1) (v := .ref (h0 + 118)) hx hb hown hT hE hW cls_X5 (Or.inl (by decide)) (so_117 h0 g _) (by decide) rfl wq294 dX5_readPieces_65 ?_
          refine x_iload_n hx hb hl 0 rfl dX5_readPieces_68 rfl ?_
          refine x_gov (x_runVN (As := [.int (xJ x16)]) hx hb hml hown hT hE hW hl.1 (Or.inl (by decide)) (so_118 h0 g _) rfl cf_X4_landSkip wq692 wq25 wn690 (c_X4_landSkip l D g T h0 s22 hW.2.1 x16 rx16 hp23.1.1) ⟨rfl, rfl, ⟨by decide, by decide⟩, ⟨by decide, by decide⟩⟩ rfl rfl (Nat.le_of_ble_eq_true rfl) dX5_readPieces_69) hW (fun s27 H locs hp28 hW => ?_)
          obtain ⟨fs27, hp28⟩ := hp28
          have hF29 := hF24.call fs27 (fun k h => by omega)
          have q30 : s27 1 1 = s0 1 1 := (congrFun (fs27 _ (by omega)) _).trans (hp23.1.2.1.trans q20)
          have ghp28 := hp28.2
          refine x_iinc (lv' := [(2, .int (xJ (i2_12 + 1))), (3, .int (xJ x16)), (0, .ref (h0 + 117)), (1, .int (xJ q))]) hx hb hl 3 rfl dX5_readPieces_72 (by decide) rfl (fun ls hl => ?_)
          refine lv_goto (tgt := 12) hx hb dX5_readPieces_75 (by decide) ?_
          exact ih12 (i2_12 + 1) s27 H locs ls (by omega) hF29 hp28.1.1 q30 (by omega) (by omega) (by omega) hW (lv_sub hl [2, 3, 0] rfl)
        refine x_iconst hx hb dX5_readPieces_62 ?_
        rw [eQ]
        exact x_zret hx hb hr hlk hW (by omega) ⟨hF24, ⟨hp23.1.1, (hp23.1.2.1.trans q20), trivial⟩, by omega⟩ dX5_readPieces_63
    exact L12 ((300 + 1 - 0 : Int).toNat + 1) 0 s2 H locs ls (by decide) hF4 hp3.1.1 (hp3.1.2.1.trans k1_1) (by omega) (by omega) (Nat.lt_succ_self _) hW (lv_sub hl [1, 2, 0] rfl)
  refine x_iconst hx hb dX5_readPieces_8 ?_
  rw [eQ]
  exact x_zret hx hb hr hlk hW (by omega) ⟨hF4, ⟨hp3.1.1, (hp3.1.2.1.trans k1_1), trivial⟩, by omega⟩ dX5_readPieces_9
set_option maxHeartbeats 4000000 in
set_option maxRecDepth 100000 in
theorem c_X5_readPartsL2 (l : Launch) (D : va_G) (g : xG) (T : Nat × Nat × Nat) (h0 : Nat) (s0 : xS) (hσ : xRR s0) (q : Int) (rq : xR q) (hq : q = 2) (p0 : IC s0) : Met l yX5_readParts (xws yX5_readParts cX5_readParts 4 (some .boolean)) { frames := 20, cells := 0, slots := 0, locals := 458 } (xP [.ref (h0 + 117), .int (xJ q)] D g T h0 s0) (xQi D g h0 (fun r τ => xFr (fun k => k = 1 ∨ k = 118 ∨ k = 119 ∨ k = 120) s0 τ ∧ (((IC τ) ∧ (τ 1 1 = s0 1 1) ∧ True) ∧ (r = 0 ∨ r = 1)))) 0 0 (xA h0) := by
  refine x_met hσ (by decide) (Nat.le_of_ble_eq_true rfl) ?_
  intro p e s m args below meth c hx hb hr hml hown hT hlk hnm hE hW ls hl
  have hl : lv_has ls 4 [(0, .ref (h0 + 117)), (1, .int (xJ q))] := hl
  obtain ⟨Q, eQ⟩ : ∃ Q, Q = MQ below (xQi D g h0 (fun r τ => xFr (fun k => k = 1 ∨ k = 118 ∨ k = 119 ∨ k = 120) s0 τ ∧ (((IC τ) ∧ (τ 1 1 = s0 1 1) ∧ True) ∧ (r = 0 ∨ r = 1)))) args s 0 0 (xA h0) := ⟨_, rfl⟩
  rw [← eQ]
  generalize hHe : ([] : List Loc) = locs at hW ⊢
  obtain ⟨H, eH⟩ : ∃ H, H = s.heap := ⟨_, rfl⟩
  rw [← eH] at hW ⊢
  have hF : xFr (fun k => k = 1 ∨ k = 118 ∨ k = 119 ∨ k = 120) s0 s0 := xFr.rf
  have k1_1 : s0 1 1 = s0 1 1 := rfl
  refine x_aload_n hx hb hl 0 rfl dX5_readParts_0 rfl ?_
  refine x_iload_n hx hb hl 1 rfl dX5_readParts_1 rfl ?_
  refine x_goi (x_runV (As := [.int (xJ q)]) hx hb hml hown hT hE hW hl.1 (Or.inl (by decide)) (so_117 h0 g _) rfl cf_X5_readPieces wq684 wq23 wq682 (c_X5_readPiecesL2 l D g T h0 s0 hW.2.1 q rq (by omega) p0) ⟨rfl, rfl, ⟨by decide, by decide⟩, ⟨by decide, by decide⟩⟩ rfl rfl (Nat.le_of_ble_eq_true rfl) dX5_readParts_2) hW (fun x1 s2 H locs rx1 hp3 hW => ?_)
  obtain ⟨fs2, hp3⟩ := hp3
  have hF4 := hF.call fs2 (fun k h => by omega)
  have ghp3 := hp3.2
  refine x_if_ne (tgt := 10) hx hb rx1 dX5_readParts_5 (by decide) (fun c5 => ?_) (fun c5 => ?_)
  · skip
    refine x_iconst hx hb dX5_readParts_10 ?_
    refine lv_istore_n (lv' := [(2, .int (xJ 0)), (0, .ref (h0 + 117)), (1, .int (xJ q))]) hx hb dX5_readParts_11 rfl hl (by decide) rfl (fun ls hl => ?_)
    have L12 : ∀ (fu : Nat) (i2_12 : Int) (s_12 : xS) (H : Heap) (locs : List Loc) (ls : Array Slot), (xR i2_12) → (xFr (fun k => k = 1 ∨ k = 118 ∨ k = 119 ∨ k = 120) s0 s_12) → (IC s_12) → (s_12 1 1 = s0 1 1) → (0 ≤ i2_12) → (i2_12 ≤ 300) → (300 + 1 - i2_12).toNat < fu → xW D g h0 s H locs s_12 → lv_has ls 4 [(0, .ref (h0 + 117)), (1, .int (xJ q)), (2, .int (xJ i2_12))] → W p l e { frames := 20, cells := 0, slots := 0, locals := 458 } s m args below meth c H locs 0 0 Q (F0 m 12 ls []) := by
      intro fu
      induction fu with
      | zero => intro i2_12 s_12 H locs ls ri2_12 hF_12 q12_0 q12_1 v12_0 v12_1 hm; exact absurd hm (Nat.not_lt_zero _)
      | succ fu ih12 =>
        intro i2_12 s_12 H locs ls ri2_12 hF_12 q12_0 q12_1 v12_0 v12_1 hm hW hl
        refine x_iload_n hx hb hl 2 rfl dX5_readParts_12 rfl ?_
        refine x_sipush hx hb dX5_readParts_13 (by decide) ?_
        refine x_icmp_ge (tgt := 78) hx hb ri2_12 (by decide) dX5_readParts_16 (by decide) (fun c6 => ?_) (fun c6 => ?_)
        · skip
          refine x_iconst hx hb dX5_readParts_78 ?_
          rw [eQ]
          exact x_zret hx hb hr hlk hW (by omega) ⟨hF_12, ⟨q12_0, q12_1, trivial⟩, by omega⟩ dX5_readParts_79
        refine x_aload_n hx hb hl 0 rfl dX5_readParts_19 rfl ?_
        refine x_get (j := 0) (v := .ref (h0 + 1)) hx hb hown hT hE hW cls_X5 (Or.inl (by decide)) (so_117 h0 g _) (by decide) rfl wq293 dX5_readParts_20 ?_
        refine x_goi (x_runVN (As := []) hx hb hml hown hT hE hW hl.1 (Or.inl (by decide)) (so_1 h0 g _) rfl cf_X8_sign wq581 wq4 wn641 (c_X8_sign l D g T h0 s_12 hW.2.1 q12_0) ⟨rfl, rfl, ⟨by decide, by decide⟩, ⟨by decide, by decide⟩⟩ rfl rfl (Nat.le_of_ble_eq_true rfl) dX5_readParts_23) hW (fun x7 s8 H locs rx7 hp9 hW => ?_)
        obtain ⟨es8, hp9⟩ := hp9
        subst es8
        have ghp9 := hp9
        refine x_bipush hx hb dX5_readParts_26 (by decide) ?_
        refine x_icmp_ne (tgt := 78) hx hb rx7 (by decide) dX5_readParts_28 (by decide) (fun c10 => ?_) (fun c10 => ?_)
        · skip
          refine x_iconst hx hb dX5_readParts_78 ?_
          rw [eQ]
          exact x_zret hx hb hr hlk hW (by omega) ⟨hF_12, ⟨q12_0, q12_1, trivial⟩, by omega⟩ dX5_readParts_79
        refine x_aload_n hx hb hl 0 rfl dX5_readParts_31 rfl ?_
        refine x_get (j := 0) (v := .ref (h0 + 1)) hx hb hown hT hE hW cls_X5 (Or.inl (by decide)) (so_117 h0 g _) (by decide) rfl wq293 dX5_readParts_32 ?_
        refine lv_dup hx hb dX5_readParts_35 rfl ?_
        refine x_getN (j := 3) (v := .int (xJ (s_12 1 3))) hx hb hown hT hE hW cls_X8 (Or.inl (by decide)) (so_1 h0 g _) (by decide) rfl wn201 dX5_readParts_36 ?_
        refine x_rd hW (fun x11 ex11 rx11 => ?_)
        refine x_iconst hx hb dX5_readParts_39 ?_
        refine x_iadd hx hb dX5_readParts_40 ?_
        refine x_putN (j := 3) hx hb hown hT hE hW cls_X8 (by decide) (fun σ => so_1 h0 g σ) (by decide) (st_X8_3 h0 s_12 1 (x11 + 1)) (ln_X8_3 h0 _ _) wn201 rfl rfl rfl (by omega) dX5_readParts_41 (fun H locs s12 es12 hW => ?_)
        have q13 : IC s12 := by rw [es12]; exact IC_1 q12_0 (by omega)
        have q14 : s12 1 1 = s0 1 1 := (show s12 1 1 = s_12 1 1 from by rw [es12, xU_j _ _ (by decide)]).trans q12_1
        have hF15 := hF_12.put es12 (by omega)
        refine x_aload_n hx hb hl 0 rfl dX5_readParts_44 rfl ?_
        refine x_get (j := 1) (v := .ref (h0 + 118)) hx hb hown hT hE hW cls_X5 (Or.inl (by decide)) (so_117 h0 g _) (by decide) rfl wq294 dX5_readParts_45 ?_
        refine x_iconst hx hb dX5_readParts_48 ?_
        refine x_iconst hx hb dX5_readParts_49 ?_
        refine x_goi (x_runVN (As := [.int (xJ 5), .int (xJ 0)]) hx hb hml hown hT hE hW hl.1 (Or.inl (by decide)) (so_118 h0 g _) rfl cf_X4_put wq672 wq21 wn670 (c_X4_put l D g T h0 s12 hW.2.1 5 (by decide) 0 (by decide) q13) ⟨rfl, rfl, ⟨by decide, by decide⟩, ⟨by decide, by decide⟩⟩ rfl rfl (Nat.le_of_ble_eq_true rfl) dX5_readParts_50) hW (fun x16 s17 H locs rx16 hp18 hW => ?_)
        obtain ⟨fs17, hp18⟩ := hp18
        have hF19 := hF15.call fs17 (fun k h => by omega)
        have q20 : s17 1 1 = s0 1 1 := (congrFun (fs17 _ (by omega)) _).trans q14
        have ghp18 := hp18.2
        refine lv_istore_n (lv' := [(3, .int (xJ x16)), (0, .ref (h0 + 117)), (1, .int (xJ q)), (2, .int (xJ i2_12))]) hx hb dX5_readParts_53 rfl hl (by decide) rfl (fun ls hl => ?_)
        refine x_aload_n hx hb hl 1 rfl dX5_readParts_54 rfl ?_
        refine x_iload_n hx hb hl 2 rfl dX5_readParts_55 rfl ?_
        refine x_goi (x_runV (As := [.int (xJ q)]) hx hb hml hown hT hE hW hl.1 (Or.inl (by decide)) (so_117 h0 g _) rfl cf_X5_readPieces wq684 wq23 wq682 (c_X5_readPiecesL2 l D g T h0 s17 hW.2.1 q rq (by omega) hp18.1.1) ⟨rfl, rfl, ⟨by decide, by decide⟩, ⟨by decide, by decide⟩⟩ rfl rfl (Nat.le_of_ble_eq_true rfl) dX5_readParts_56) hW (fun x21 s22 H locs rx21 hp23 hW => ?_)
        obtain ⟨fs22, hp23⟩ := hp23
        have hF24 := hF19.call fs22 (fun k h => by omega)
        have ghp23 := hp23.2
        refine x_if_ne (tgt := 64) hx hb rx21 dX5_readParts_59 (by decide) (fun c25 => ?_) (fun c25 => ?_)
        · skip
          refine x_aload_n hx hb hl 1 rfl dX5_readParts_64 rfl ?_
          refine x_get (j := 1) (v := .ref (h0 + 118)) hx hb hown hT hE hW cls_X5 (Or.inl (by decide)) (so_117 h0 g _) (by decide) rfl wq294 dX5_readParts_65 ?_
          refine x_iload_n hx hb hl 0 rfl dX5_readParts_68 rfl ?_
          refine x_gov (x_runVN (As := [.int (xJ x16)]) hx hb hml hown hT hE hW hl.1 (Or.inl (by decide)) (so_118 h0 g _) rfl cf_X4_landSkip wq692 wq25 wn690 (c_X4_landSkip l D g T h0 s22 hW.2.1 x16 rx16 hp23.1.1) ⟨rfl, rfl, ⟨by decide, by decide⟩, ⟨by decide, by decide⟩⟩ rfl rfl (Nat.le_of_ble_eq_true rfl) dX5_readParts_69) hW (fun s27 H locs hp28 hW => ?_)
          obtain ⟨fs27, hp28⟩ := hp28
          have hF29 := hF24.call fs27 (fun k h => by omega)
          have q30 : s27 1 1 = s0 1 1 := (congrFun (fs27 _ (by omega)) _).trans (hp23.1.2.1.trans q20)
          have ghp28 := hp28.2
          refine x_iinc (lv' := [(2, .int (xJ (i2_12 + 1))), (3, .int (xJ x16)), (0, .ref (h0 + 117)), (1, .int (xJ q))]) hx hb hl 3 rfl dX5_readParts_72 (by decide) rfl (fun ls hl => ?_)
          refine lv_goto (tgt := 12) hx hb dX5_readParts_75 (by decide) ?_
          exact ih12 (i2_12 + 1) s27 H locs ls (by omega) hF29 hp28.1.1 q30 (by omega) (by omega) (by omega) hW (lv_sub hl [2, 3, 0] rfl)
        refine x_iconst hx hb dX5_readParts_62 ?_
        rw [eQ]
        exact x_zret hx hb hr hlk hW (by omega) ⟨hF24, ⟨hp23.1.1, (hp23.1.2.1.trans q20), trivial⟩, by omega⟩ dX5_readParts_63
    exact L12 ((300 + 1 - 0 : Int).toNat + 1) 0 s2 H locs ls (by decide) hF4 hp3.1.1 (hp3.1.2.1.trans k1_1) (by omega) (by omega) (Nat.lt_succ_self _) hW (lv_sub hl [1, 2, 0] rfl)
  refine x_iconst hx hb dX5_readParts_8 ?_
  rw [eQ]
  exact x_zret hx hb hr hlk hW (by omega) ⟨hF4, ⟨hp3.1.1, (hp3.1.2.1.trans k1_1), trivial⟩, by omega⟩ dX5_readParts_9
set_option maxHeartbeats 4000000 in
set_option maxRecDepth 100000 in
theorem c_X5_readPieceL1 (l : Launch) (D : va_G) (g : xG) (T : Nat × Nat × Nat) (h0 : Nat) (s0 : xS) (hσ : xRR s0) (q : Int) (rq : xR q) (hq : q = 1) (p0 : IC s0) : Met l yX5_readPiece (xws yX5_readPiece cX5_readPiece 5 (some .boolean)) { frames := 21, cells := 0, slots := 0, locals := 481 } (xP [.ref (h0 + 117), .int (xJ q)] D g T h0 s0) (xQi D g h0 (fun r τ => xFr (fun k => k = 1 ∨ k = 118 ∨ k = 119 ∨ k = 120) s0 τ ∧ (((IC τ) ∧ (τ 1 1 = s0 1 1) ∧ True) ∧ (r = 0 ∨ r = 1)))) 0 0 (xA h0) := by
  refine x_met hσ (by decide) (Nat.le_of_ble_eq_true rfl) ?_
  intro p e s m args below meth c hx hb hr hml hown hT hlk hnm hE hW ls hl
  have hl : lv_has ls 5 [(0, .ref (h0 + 117)), (1, .int (xJ q))] := hl
  obtain ⟨Q, eQ⟩ : ∃ Q, Q = MQ below (xQi D g h0 (fun r τ => xFr (fun k => k = 1 ∨ k = 118 ∨ k = 119 ∨ k = 120) s0 τ ∧ (((IC τ) ∧ (τ 1 1 = s0 1 1) ∧ True) ∧ (r = 0 ∨ r = 1)))) args s 0 0 (xA h0) := ⟨_, rfl⟩
  rw [← eQ]
  generalize hHe : ([] : List Loc) = locs at hW ⊢
  obtain ⟨H, eH⟩ : ∃ H, H = s.heap := ⟨_, rfl⟩
  rw [← eH] at hW ⊢
  have hF : xFr (fun k => k = 1 ∨ k = 118 ∨ k = 119 ∨ k = 120) s0 s0 := xFr.rf
  have k1_1 : s0 1 1 = s0 1 1 := rfl
  refine x_aload_n hx hb hl 0 rfl dX5_readPiece_0 rfl ?_
  refine x_get (j := 0) (v := .ref (h0 + 1)) hx hb hown hT hE hW cls_X5 (Or.inl (by decide)) (so_117 h0 g _) (by decide) rfl wq293 dX5_readPiece_1 ?_
  refine x_goi (x_runVN (As := []) hx hb hml hown hT hE hW hl.1 (Or.inl (by decide)) (so_1 h0 g _) rfl cf_X8_sign wq581 wq4 wn641 (c_X8_sign l D g T h0 s0 hW.2.1 p0) ⟨rfl, rfl, ⟨by decide, by decide⟩, ⟨by decide, by decide⟩⟩ rfl rfl (Nat.le_of_ble_eq_true rfl) dX5_readPiece_4) hW (fun x1 s2 H locs rx1 hp3 hW => ?_)
  obtain ⟨es2, hp3⟩ := hp3
  subst es2
  have ghp3 := hp3
  refine lv_istore_n (lv' := [(2, .int (xJ x1)), (0, .ref (h0 + 117)), (1, .int (xJ q))]) hx hb dX5_readPiece_7 rfl hl (by decide) rfl (fun ls hl => ?_)
  refine x_iload_n hx hb hl 0 rfl dX5_readPiece_8 rfl ?_
  refine x_bipush hx hb dX5_readPiece_9 (by decide) ?_
  have J20 : ∀ (ls : Array Slot), (0 ≤ s0 1 3 ∧ s0 1 3 < 260) → lv_has ls 5 [(0, .ref (h0 + 117)), (1, .int (xJ q)), (2, .int (xJ x1))] → W p l e { frames := 21, cells := 0, slots := 0, locals := 481 } s m args below meth c H locs 0 0 Q (F0 m 20 ls []) := by
    intro ls v20_0  hl
    refine x_iload_n hx hb hl 1 rfl dX5_readPiece_20 rfl ?_
    refine x_bipush hx hb dX5_readPiece_21 (by decide) ?_
    refine x_icmp_lt (tgt := 42) hx hb rq (by decide) dX5_readPiece_23 (by decide) (fun c4 => ?_) (fun c4 => False.elim (by omega))
    refine x_aload_n hx hb hl 0 rfl dX5_readPiece_42 rfl ?_
    refine x_get (j := 0) (v := .ref (h0 + 1)) hx hb hown hT hE hW cls_X5 (Or.inl (by decide)) (so_117 h0 g _) (by decide) rfl wq293 dX5_readPiece_43 ?_
    refine lv_dup hx hb dX5_readPiece_46 rfl ?_
    refine x_getN (j := 3) (v := .int (xJ (s0 1 3))) hx hb hown hT hE hW cls_X8 (Or.inl (by decide)) (so_1 h0 g _) (by decide) rfl wn201 dX5_readPiece_47 ?_
    refine x_rd hW (fun x5 ex5 rx5 => ?_)
    refine x_iconst hx hb dX5_readPiece_50 ?_
    refine x_iadd hx hb dX5_readPiece_51 ?_
    refine x_putN (j := 3) hx hb hown hT hE hW cls_X8 (by decide) (fun σ => so_1 h0 g σ) (by decide) (st_X8_3 h0 s0 1 (x5 + 1)) (ln_X8_3 h0 _ _) wn201 rfl rfl rfl (by omega) dX5_readPiece_52 (fun H locs s6 es6 hW => ?_)
    have q7 : IC s6 := by rw [es6]; exact IC_1 p0 (by omega)
    have q8 : s6 1 1 = s0 1 1 := (show s6 1 1 = s0 1 1 from by rw [es6, xU_j _ _ (by decide)]).trans k1_1
    have hF9 := hF.put es6 (by omega)
    refine x_iload_n hx hb hl 2 rfl dX5_readPiece_55 rfl ?_
    refine x_bipush hx hb dX5_readPiece_56 (by decide) ?_
    refine x_icmp_ne (tgt := 89) hx hb rx1 (by decide) dX5_readPiece_58 (by decide) (fun c10 => ?_) (fun c10 => ?_)
    · skip
      refine x_aload_n hx hb hl 0 rfl dX5_readPiece_89 rfl ?_
      refine x_iload_n hx hb hl 1 rfl dX5_readPiece_90 rfl ?_
      refine x_iconst hx hb dX5_readPiece_91 ?_
      refine x_iadd hx hb dX5_readPiece_92 ?_
      refine x_goi (x_runV (As := [.int (xJ (q + 1))]) hx hb hml hown hT hE hW hl.1 (Or.inl (by decide)) (so_117 h0 g _) rfl cf_X5_readPiece wq688 wq24 wq686 (c_X5_readPieceL2 l D g T h0 s6 hW.2.1 (q + 1) (by omega) (by omega) q7) ⟨rfl, rfl, ⟨by decide, by decide⟩, ⟨by decide, by decide⟩⟩ rfl rfl (Nat.le_of_ble_eq_true rfl) dX5_readPiece_93) hW (fun x11 s12 H locs rx11 hp13 hW => ?_)
      obtain ⟨fs12, hp13⟩ := hp13
      have hF14 := hF9.call fs12 (fun k h => by omega)
      have ghp13 := hp13.2
      refine lv_istore_n (lv' := [(3, .int (xJ x11)), (0, .ref (h0 + 117)), (1, .int (xJ q)), (2, .int (xJ x1))]) hx hb dX5_readPiece_96 rfl hl (by decide) rfl (fun ls hl => ?_)
      refine x_aload_n hx hb hl 1 rfl dX5_readPiece_97 rfl ?_
      refine x_get (j := 1) (v := .ref (h0 + 118)) hx hb hown hT hE hW cls_X5 (Or.inl (by decide)) (so_117 h0 g _) (by decide) rfl wq294 dX5_readPiece_98 ?_
      refine x_iconst hx hb dX5_readPiece_101 ?_
      refine x_iconst hx hb dX5_readPiece_102 ?_
      refine x_goi (x_runVN (As := [.int (xJ 3), .int (xJ 0)]) hx hb hml hown hT hE hW hl.1 (Or.inl (by decide)) (so_118 h0 g _) rfl cf_X4_put wq672 wq21 wn670 (c_X4_put l D g T h0 s12 hW.2.1 3 (by decide) 0 (by decide) hp13.1.1) ⟨rfl, rfl, ⟨by decide, by decide⟩, ⟨by decide, by decide⟩⟩ rfl rfl (Nat.le_of_ble_eq_true rfl) dX5_readPiece_103) hW (fun x15 s16 H locs rx15 hp17 hW => ?_)
      obtain ⟨fs16, hp17⟩ := hp17
      have hF18 := hF14.call fs16 (fun k h => by omega)
      have q19 : s16 1 1 = s0 1 1 := (congrFun (fs16 _ (by omega)) _).trans (hp13.1.2.1.trans q8)
      have ghp17 := hp17.2
      refine lv_pop hx hb dX5_readPiece_106 rfl ?_
      refine x_iload_n hx hb hl 0 rfl dX5_readPiece_107 rfl ?_
      rw [eQ]
      exact x_zret hx hb hr hlk hW (by omega) ⟨hF18, ⟨hp17.1.1, q19, trivial⟩, by omega⟩ dX5_readPiece_108
    refine x_aload_n hx hb hl 0 rfl dX5_readPiece_61 rfl ?_
    refine x_iload_n hx hb hl 1 rfl dX5_readPiece_62 rfl ?_
    refine x_iconst hx hb dX5_readPiece_63 ?_
    refine x_iadd hx hb dX5_readPiece_64 ?_
    refine x_goi (x_runV (As := [.int (xJ (q + 1))]) hx hb hml hown hT hE hW hl.1 (Or.inl (by decide)) (so_117 h0 g _) rfl cf_X5_readParts wq680 wq22 wq678 (c_X5_readPartsL2 l D g T h0 s6 hW.2.1 (q + 1) (by omega) (by omega) q7) ⟨rfl, rfl, ⟨by decide, by decide⟩, ⟨by decide, by decide⟩⟩ rfl rfl (Nat.le_of_ble_eq_true rfl) dX5_readPiece_65) hW (fun x20 s21 H locs rx20 hp22 hW => ?_)
    obtain ⟨fs21, hp22⟩ := hp22
    have hF23 := hF9.call fs21 (fun k h => by omega)
    have ghp22 := hp22.2
    refine x_if_eq (tgt := 87) hx hb rx20 dX5_readPiece_68 (by decide) (fun c24 => ?_) (fun c24 => ?_)
    · skip
      refine x_iconst hx hb dX5_readPiece_87 ?_
      rw [eQ]
      exact x_zret hx hb hr hlk hW (by omega) ⟨hF23, ⟨hp22.1.1, (hp22.1.2.1.trans q8), trivial⟩, by omega⟩ dX5_readPiece_88
    refine x_aload_n hx hb hl 0 rfl dX5_readPiece_71 rfl ?_
    refine x_get (j := 0) (v := .ref (h0 + 1)) hx hb hown hT hE hW cls_X5 (Or.inl (by decide)) (so_117 h0 g _) (by decide) rfl wq293 dX5_readPiece_72 ?_
    refine x_bipush hx hb dX5_readPiece_75 (by decide) ?_
    refine x_goi (x_runVN (As := [.int (xJ 41)]) hx hb hml hown hT hE hW hl.1 (Or.inl (by decide)) (so_1 h0 g _) rfl cf_X8_passes wq598 wq6 wn674 (c_X8_passes l D g T h0 s21 hW.2.1 41 (by decide) hp22.1.1) ⟨rfl, rfl, ⟨by decide, by decide⟩, ⟨by decide, by decide⟩⟩ rfl rfl (Nat.le_of_ble_eq_true rfl) dX5_readPiece_77) hW (fun x25 s26 H locs rx25 hp27 hW => ?_)
    obtain ⟨fs26, hp27⟩ := hp27
    have hF28 := hF23.call fs26 (fun k h => by omega)
    have ghp27 := hp27.2
    refine x_if_eq (tgt := 87) hx hb rx25 dX5_readPiece_80 (by decide) (fun c29 => ?_) (fun c29 => ?_)
    · skip
      refine x_iconst hx hb dX5_readPiece_87 ?_
      rw [eQ]
      exact x_zret hx hb hr hlk hW (by omega) ⟨hF28, ⟨hp27.1.1, (hp27.1.2.1.trans (hp22.1.2.1.trans q8)), trivial⟩, by omega⟩ dX5_readPiece_88
    refine x_iconst hx hb dX5_readPiece_83 ?_
    refine lv_goto (tgt := 88) hx hb dX5_readPiece_84 (by decide) ?_
    rw [eQ]
    exact x_zret hx hb hr hlk hW (by omega) ⟨hF28, ⟨hp27.1.1, (hp27.1.2.1.trans (hp22.1.2.1.trans q8)), trivial⟩, by omega⟩ dX5_readPiece_88
  refine x_icmp_eq (tgt := 20) hx hb rx1 (by decide) dX5_readPiece_11 (by decide) (fun c30 => ?_) (fun c30 => ?_)
  · skip
    exact J20 ls (by omega)  (lv_sub hl [1, 2, 0] rfl)
  refine x_iload_n hx hb hl 0 rfl dX5_readPiece_14 rfl ?_
  refine x_bipush hx hb dX5_readPiece_15 (by decide) ?_
  refine x_icmp_ne (tgt := 109) hx hb rx1 (by decide) dX5_readPiece_17 (by decide) (fun c31 => ?_) (fun c31 => ?_)
  · skip
    refine x_aload_n hx hb hl 1 rfl dX5_readPiece_109 rfl ?_
    refine x_iload_n hx hb hl 2 rfl dX5_readPiece_110 rfl ?_
    refine x_goi (x_runV (As := [.int (xJ q)]) hx hb hml hown hT hE hW hl.1 (Or.inl (by decide)) (so_117 h0 g _) rfl cf_X5_readSum wq652 wq16 wq650 (c_X5_readSumL1 l D g T h0 s0 hW.2.1 q rq (by omega) p0) ⟨rfl, rfl, ⟨by decide, by decide⟩, ⟨by decide, by decide⟩⟩ rfl rfl (Nat.le_of_ble_eq_true rfl) dX5_readPiece_111) hW (fun x32 s33 H locs rx32 hp34 hW => ?_)
    obtain ⟨fs33, hp34⟩ := hp34
    have hF35 := hF.call fs33 (fun k h => by omega)
    have ghp34 := hp34.2
    refine x_if_ne (tgt := 119) hx hb rx32 dX5_readPiece_114 (by decide) (fun c36 => ?_) (fun c36 => ?_)
    · skip
      refine x_aload_n hx hb hl 1 rfl dX5_readPiece_119 rfl ?_
      refine x_get (j := 0) (v := .ref (h0 + 1)) hx hb hown hT hE hW cls_X5 (Or.inl (by decide)) (so_117 h0 g _) (by decide) rfl wq293 dX5_readPiece_120 ?_
      refine x_goi (x_runVN (As := []) hx hb hml hown hT hE hW hl.1 (Or.inl (by decide)) (so_1 h0 g _) rfl cf_X8_sign wq581 wq4 wn641 (c_X8_sign l D g T h0 s33 hW.2.1 hp34.1.1) ⟨rfl, rfl, ⟨by decide, by decide⟩, ⟨by decide, by decide⟩⟩ rfl rfl (Nat.le_of_ble_eq_true rfl) dX5_readPiece_123) hW (fun x37 s38 H locs rx37 hp39 hW => ?_)
      obtain ⟨es38, hp39⟩ := hp39
      subst es38
      have ghp39 := hp39
      refine lv_istore_n (lv' := [(3, .int (xJ x37)), (2, .int (xJ x1)), (0, .ref (h0 + 117)), (1, .int (xJ q))]) hx hb dX5_readPiece_126 rfl hl (by decide) rfl (fun ls hl => ?_)
      refine x_iload_n hx hb hl 0 rfl dX5_readPiece_127 rfl ?_
      refine x_bipush hx hb dX5_readPiece_128 (by decide) ?_
      have J161 : ∀ (ls : Array Slot), (x37 ≠ -1) → lv_has ls 5 [(0, .ref (h0 + 117)), (1, .int (xJ q)), (3, .int (xJ x37))] → W p l e { frames := 21, cells := 0, slots := 0, locals := 481 } s m args below meth c H locs 0 0 Q (F0 m 161 ls []) := by
        intro ls v161_0  hl
        refine x_aload_n hx hb hl 0 rfl dX5_readPiece_161 rfl ?_
        refine x_get (j := 0) (v := .ref (h0 + 1)) hx hb hown hT hE hW cls_X5 (Or.inl (by decide)) (so_117 h0 g _) (by decide) rfl wq293 dX5_readPiece_162 ?_
        refine lv_dup hx hb dX5_readPiece_165 rfl ?_
        refine x_getN (j := 3) (v := .int (xJ (s33 1 3))) hx hb hown hT hE hW cls_X8 (Or.inl (by decide)) (so_1 h0 g _) (by decide) rfl wn201 dX5_readPiece_166 ?_
        refine x_rd hW (fun x40 ex40 rx40 => ?_)
        refine x_iconst hx hb dX5_readPiece_169 ?_
        refine x_iadd hx hb dX5_readPiece_170 ?_
        refine x_putN (j := 3) hx hb hown hT hE hW cls_X8 (by decide) (fun σ => so_1 h0 g σ) (by decide) (st_X8_3 h0 s33 1 (x40 + 1)) (ln_X8_3 h0 _ _) wn201 rfl rfl rfl (by omega) dX5_readPiece_171 (fun H locs s41 es41 hW => ?_)
        have q42 : IC s41 := by rw [es41]; exact IC_1 hp34.1.1 (by omega)
        have q43 : s41 1 1 = s0 1 1 := (show s41 1 1 = s33 1 1 from by rw [es41, xU_j _ _ (by decide)]).trans (hp34.1.2.1.trans k1_1)
        have hF44 := hF35.put es41 (by omega)
        refine x_aload_n hx hb hl 0 rfl dX5_readPiece_174 rfl ?_
        refine x_iload_n hx hb hl 1 rfl dX5_readPiece_175 rfl ?_
        refine x_goi (x_runV (As := [.int (xJ q)]) hx hb hml hown hT hE hW hl.1 (Or.inl (by decide)) (so_117 h0 g _) rfl cf_X5_readSum wq652 wq16 wq650 (c_X5_readSumL1 l D g T h0 s41 hW.2.1 q rq (by omega) q42) ⟨rfl, rfl, ⟨by decide, by decide⟩, ⟨by decide, by decide⟩⟩ rfl rfl (Nat.le_of_ble_eq_true rfl) dX5_readPiece_176) hW (fun x45 s46 H locs rx45 hp47 hW => ?_)
        obtain ⟨fs46, hp47⟩ := hp47
        have hF48 := hF44.call fs46 (fun k h => by omega)
        have ghp47 := hp47.2
        refine lv_istore (lv' := [(4, .int (xJ x45)), (0, .ref (h0 + 117)), (1, .int (xJ q)), (3, .int (xJ x37))]) hx hb dX5_readPiece_179 hl (by decide) rfl (fun ls hl => ?_)
        refine x_aload_n hx hb hl 1 rfl dX5_readPiece_181 rfl ?_
        refine x_get (j := 1) (v := .ref (h0 + 118)) hx hb hown hT hE hW cls_X5 (Or.inl (by decide)) (so_117 h0 g _) (by decide) rfl wq294 dX5_readPiece_182 ?_
        refine x_iload_n hx hb hl 3 rfl dX5_readPiece_185 rfl ?_
        refine x_iconst hx hb dX5_readPiece_186 ?_
        refine x_goi (x_runVN (As := [.int (xJ x37), .int (xJ 0)]) hx hb hml hown hT hE hW hl.1 (Or.inl (by decide)) (so_118 h0 g _) rfl cf_X4_put wq672 wq21 wn670 (c_X4_put l D g T h0 s46 hW.2.1 x37 rx37 0 (by decide) hp47.1.1) ⟨rfl, rfl, ⟨by decide, by decide⟩, ⟨by decide, by decide⟩⟩ rfl rfl (Nat.le_of_ble_eq_true rfl) dX5_readPiece_187) hW (fun x49 s50 H locs rx49 hp51 hW => ?_)
        obtain ⟨fs50, hp51⟩ := hp51
        have hF52 := hF48.call fs50 (fun k h => by omega)
        have q53 : s50 1 1 = s0 1 1 := (congrFun (fs50 _ (by omega)) _).trans (hp47.1.2.1.trans q43)
        have ghp51 := hp51.2
        refine lv_pop hx hb dX5_readPiece_190 rfl ?_
        refine x_iload hx hb hl 0 rfl dX5_readPiece_191 ?_
        rw [eQ]
        exact x_zret hx hb hr hlk hW (by omega) ⟨hF52, ⟨hp51.1.1, q53, trivial⟩, by omega⟩ dX5_readPiece_193
      refine x_icmp_eq (tgt := 161) hx hb rx37 (by decide) dX5_readPiece_130 (by decide) (fun c54 => ?_) (fun c54 => ?_)
      · skip
        exact J161 ls (by omega)  (lv_sub hl [2, 3, 0] rfl)
      refine x_iload_n hx hb hl 0 rfl dX5_readPiece_133 rfl ?_
      refine x_bipush hx hb dX5_readPiece_134 (by decide) ?_
      refine x_icmp_eq (tgt := 161) hx hb rx37 (by decide) dX5_readPiece_136 (by decide) (fun c55 => ?_) (fun c55 => ?_)
      · skip
        exact J161 ls (by omega)  (lv_sub hl [2, 3, 0] rfl)
      refine x_iload_n hx hb hl 0 rfl dX5_readPiece_139 rfl ?_
      refine x_bipush hx hb dX5_readPiece_140 (by decide) ?_
      refine x_icmp_eq (tgt := 161) hx hb rx37 (by decide) dX5_readPiece_142 (by decide) (fun c56 => ?_) (fun c56 => ?_)
      · skip
        exact J161 ls (by omega)  (lv_sub hl [2, 3, 0] rfl)
      refine x_aload_n hx hb hl 2 rfl dX5_readPiece_145 rfl ?_
      refine x_get (j := 0) (v := .ref (h0 + 1)) hx hb hown hT hE hW cls_X5 (Or.inl (by decide)) (so_117 h0 g _) (by decide) rfl wq293 dX5_readPiece_146 ?_
      refine x_iconst hx hb dX5_readPiece_149 ?_
      refine x_aload_n hx hb hl 2 rfl dX5_readPiece_150 rfl ?_
      refine x_get (j := 0) (v := .ref (h0 + 1)) hx hb hown hT hE hW cls_X5 (Or.inl (by decide)) (so_117 h0 g _) (by decide) rfl wq293 dX5_readPiece_151 ?_
      refine x_getN (j := 3) (v := .int (xJ (s33 1 3))) hx hb hown hT hE hW cls_X8 (Or.inl (by decide)) (so_1 h0 g _) (by decide) rfl wn201 dX5_readPiece_154 ?_
      refine x_rd hW (fun x57 ex57 rx57 => ?_)
      refine x_goi (x_runVN (As := [.int (xJ 1), .int (xJ x57)]) hx hb hml hown hT hE hW hl.1 (Or.inl (by decide)) (so_1 h0 g _) rfl cf_X8_fails wq588 wq5 wn645 (c_X8_fails l D g T h0 s33 hW.2.1 1 (by decide) x57 rx57 hp34.1.1) ⟨rfl, rfl, ⟨by decide, by decide⟩, ⟨by decide, by decide⟩⟩ rfl rfl (Nat.le_of_ble_eq_true rfl) dX5_readPiece_157) hW (fun x58 s59 H locs rx58 hp60 hW => ?_)
      obtain ⟨fs59, hp60⟩ := hp60
      have hF61 := hF35.call fs59 (fun k h => by omega)
      have ghp60 := hp60.2
      rw [eQ]
      exact x_zret hx hb hr hlk hW (by omega) ⟨hF61, ⟨hp60.1.1, (hp60.1.2.1.trans (hp34.1.2.1.trans k1_1)), trivial⟩, by omega⟩ dX5_readPiece_160
    refine x_iconst hx hb dX5_readPiece_117 ?_
    rw [eQ]
    exact x_zret hx hb hr hlk hW (by omega) ⟨hF35, ⟨hp34.1.1, (hp34.1.2.1.trans k1_1), trivial⟩, by omega⟩ dX5_readPiece_118
  exact J20 ls (by omega)  (lv_sub hl [1, 2, 0] rfl)
set_option maxHeartbeats 4000000 in
set_option maxRecDepth 100000 in
theorem c_X5_readPiecesL1 (l : Launch) (D : va_G) (g : xG) (T : Nat × Nat × Nat) (h0 : Nat) (s0 : xS) (hσ : xRR s0) (q : Int) (rq : xR q) (hq : q = 1) (p0 : IC s0) : Met l yX5_readPieces (xws yX5_readPieces cX5_readPieces 4 (some .boolean)) { frames := 22, cells := 0, slots := 0, locals := 505 } (xP [.ref (h0 + 117), .int (xJ q)] D g T h0 s0) (xQi D g h0 (fun r τ => xFr (fun k => k = 1 ∨ k = 118 ∨ k = 119 ∨ k = 120) s0 τ ∧ (((IC τ) ∧ (τ 1 1 = s0 1 1) ∧ True) ∧ (r = 0 ∨ r = 1)))) 0 0 (xA h0) := by
  refine x_met hσ (by decide) (Nat.le_of_ble_eq_true rfl) ?_
  intro p e s m args below meth c hx hb hr hml hown hT hlk hnm hE hW ls hl
  have hl : lv_has ls 4 [(0, .ref (h0 + 117)), (1, .int (xJ q))] := hl
  obtain ⟨Q, eQ⟩ : ∃ Q, Q = MQ below (xQi D g h0 (fun r τ => xFr (fun k => k = 1 ∨ k = 118 ∨ k = 119 ∨ k = 120) s0 τ ∧ (((IC τ) ∧ (τ 1 1 = s0 1 1) ∧ True) ∧ (r = 0 ∨ r = 1)))) args s 0 0 (xA h0) := ⟨_, rfl⟩
  rw [← eQ]
  generalize hHe : ([] : List Loc) = locs at hW ⊢
  obtain ⟨H, eH⟩ : ∃ H, H = s.heap := ⟨_, rfl⟩
  rw [← eH] at hW ⊢
  have hF : xFr (fun k => k = 1 ∨ k = 118 ∨ k = 119 ∨ k = 120) s0 s0 := xFr.rf
  have k1_1 : s0 1 1 = s0 1 1 := rfl
  refine x_aload_n hx hb hl 0 rfl dX5_readPieces_0 rfl ?_
  refine x_iload_n hx hb hl 1 rfl dX5_readPieces_1 rfl ?_
  refine x_goi (x_runV (As := [.int (xJ q)]) hx hb hml hown hT hE hW hl.1 (Or.inl (by decide)) (so_117 h0 g _) rfl cf_X5_readPiece wq688 wq24 wq686 (c_X5_readPieceL1 l D g T h0 s0 hW.2.1 q rq (by omega) p0) ⟨rfl, rfl, ⟨by decide, by decide⟩, ⟨by decide, by decide⟩⟩ rfl rfl (Nat.le_of_ble_eq_true rfl) dX5_readPieces_2) hW (fun x1 s2 H locs rx1 hp3 hW => ?_)
  obtain ⟨fs2, hp3⟩ := hp3
  have hF4 := hF.call fs2 (fun k h => by omega)
  have ghp3 := hp3.2
  refine x_if_ne (tgt := 10) hx hb rx1 dX5_readPieces_5 (by decide) (fun c5 => ?_) (fun c5 => ?_)
  · skip
    refine x_iconst hx hb dX5_readPieces_10 ?_
    refine lv_istore_n (lv' := [(2, .int (xJ 0)), (0, .ref (h0 + 117)), (1, .int (xJ q))]) hx hb dX5_readPieces_11 rfl hl (by decide) rfl (fun ls hl => ?_)
    have L12 : ∀ (fu : Nat) (i2_12 : Int) (s_12 : xS) (H : Heap) (locs : List Loc) (ls : Array Slot), (xR i2_12) → (xFr (fun k => k = 1 ∨ k = 118 ∨ k = 119 ∨ k = 120) s0 s_12) → (IC s_12) → (s_12 1 1 = s0 1 1) → (0 ≤ i2_12) → (i2_12 ≤ 300) → (300 + 1 - i2_12).toNat < fu → xW D g h0 s H locs s_12 → lv_has ls 4 [(0, .ref (h0 + 117)), (1, .int (xJ q)), (2, .int (xJ i2_12))] → W p l e { frames := 22, cells := 0, slots := 0, locals := 505 } s m args below meth c H locs 0 0 Q (F0 m 12 ls []) := by
      intro fu
      induction fu with
      | zero => intro i2_12 s_12 H locs ls ri2_12 hF_12 q12_0 q12_1 v12_0 v12_1 hm; exact absurd hm (Nat.not_lt_zero _)
      | succ fu ih12 =>
        intro i2_12 s_12 H locs ls ri2_12 hF_12 q12_0 q12_1 v12_0 v12_1 hm hW hl
        refine x_iload_n hx hb hl 2 rfl dX5_readPieces_12 rfl ?_
        refine x_sipush hx hb dX5_readPieces_13 (by decide) ?_
        refine x_icmp_ge (tgt := 78) hx hb ri2_12 (by decide) dX5_readPieces_16 (by decide) (fun c6 => ?_) (fun c6 => ?_)
        · skip
          refine x_iconst hx hb dX5_readPieces_78 ?_
          rw [eQ]
          exact x_zret hx hb hr hlk hW (by omega) ⟨hF_12, ⟨q12_0, q12_1, trivial⟩, by omega⟩ dX5_readPieces_79
        refine x_aload_n hx hb hl 0 rfl dX5_readPieces_19 rfl ?_
        refine x_get (j := 0) (v := .ref (h0 + 1)) hx hb hown hT hE hW cls_X5 (Or.inl (by decide)) (so_117 h0 g _) (by decide) rfl wq293 dX5_readPieces_20 ?_
        refine x_goi (x_runVN (As := []) hx hb hml hown hT hE hW hl.1 (Or.inl (by decide)) (so_1 h0 g _) rfl cf_X8_sign wq581 wq4 wn641 (c_X8_sign l D g T h0 s_12 hW.2.1 q12_0) ⟨rfl, rfl, ⟨by decide, by decide⟩, ⟨by decide, by decide⟩⟩ rfl rfl (Nat.le_of_ble_eq_true rfl) dX5_readPieces_23) hW (fun x7 s8 H locs rx7 hp9 hW => ?_)
        obtain ⟨es8, hp9⟩ := hp9
        subst es8
        have ghp9 := hp9
        refine x_bipush hx hb dX5_readPieces_26 (by decide) ?_
        refine x_icmp_ne (tgt := 78) hx hb rx7 (by decide) dX5_readPieces_28 (by decide) (fun c10 => ?_) (fun c10 => ?_)
        · skip
          refine x_iconst hx hb dX5_readPieces_78 ?_
          rw [eQ]
          exact x_zret hx hb hr hlk hW (by omega) ⟨hF_12, ⟨q12_0, q12_1, trivial⟩, by omega⟩ dX5_readPieces_79
        refine x_aload_n hx hb hl 0 rfl dX5_readPieces_31 rfl ?_
        refine x_get (j := 0) (v := .ref (h0 + 1)) hx hb hown hT hE hW cls_X5 (Or.inl (by decide)) (so_117 h0 g _) (by decide) rfl wq293 dX5_readPieces_32 ?_
        refine lv_dup hx hb dX5_readPieces_35 rfl ?_
        refine x_getN (j := 3) (v := .int (xJ (s_12 1 3))) hx hb hown hT hE hW cls_X8 (Or.inl (by decide)) (so_1 h0 g _) (by decide) rfl wn201 dX5_readPieces_36 ?_
        refine x_rd hW (fun x11 ex11 rx11 => ?_)
        refine x_iconst hx hb dX5_readPieces_39 ?_
        refine x_iadd hx hb dX5_readPieces_40 ?_
        refine x_putN (j := 3) hx hb hown hT hE hW cls_X8 (by decide) (fun σ => so_1 h0 g σ) (by decide) (st_X8_3 h0 s_12 1 (x11 + 1)) (ln_X8_3 h0 _ _) wn201 rfl rfl rfl (by omega) dX5_readPieces_41 (fun H locs s12 es12 hW => ?_)
        have q13 : IC s12 := by rw [es12]; exact IC_1 q12_0 (by omega)
        have q14 : s12 1 1 = s0 1 1 := (show s12 1 1 = s_12 1 1 from by rw [es12, xU_j _ _ (by decide)]).trans q12_1
        have hF15 := hF_12.put es12 (by omega)
        refine x_aload_n hx hb hl 0 rfl dX5_readPieces_44 rfl ?_
        refine x_get (j := 1) (v := .ref (h0 + 118)) hx hb hown hT hE hW cls_X5 (Or.inl (by decide)) (so_117 h0 g _) (by decide) rfl wq294 dX5_readPieces_45 ?_
        refine x_iconst hx hb dX5_readPieces_48 ?_
        refine x_iconst hx hb dX5_readPieces_49 ?_
        refine x_goi (x_runVN (As := [.int (xJ 4), .int (xJ 0)]) hx hb hml hown hT hE hW hl.1 (Or.inl (by decide)) (so_118 h0 g _) rfl cf_X4_put wq672 wq21 wn670 (c_X4_put l D g T h0 s12 hW.2.1 4 (by decide) 0 (by decide) q13) ⟨rfl, rfl, ⟨by decide, by decide⟩, ⟨by decide, by decide⟩⟩ rfl rfl (Nat.le_of_ble_eq_true rfl) dX5_readPieces_50) hW (fun x16 s17 H locs rx16 hp18 hW => ?_)
        obtain ⟨fs17, hp18⟩ := hp18
        have hF19 := hF15.call fs17 (fun k h => by omega)
        have q20 : s17 1 1 = s0 1 1 := (congrFun (fs17 _ (by omega)) _).trans q14
        have ghp18 := hp18.2
        refine lv_istore_n (lv' := [(3, .int (xJ x16)), (0, .ref (h0 + 117)), (1, .int (xJ q)), (2, .int (xJ i2_12))]) hx hb dX5_readPieces_53 rfl hl (by decide) rfl (fun ls hl => ?_)
        refine x_aload_n hx hb hl 1 rfl dX5_readPieces_54 rfl ?_
        refine x_iload_n hx hb hl 2 rfl dX5_readPieces_55 rfl ?_
        refine x_goi (x_runV (As := [.int (xJ q)]) hx hb hml hown hT hE hW hl.1 (Or.inl (by decide)) (so_117 h0 g _) rfl cf_X5_readPiece wq688 wq24 wq686 (c_X5_readPieceL1 l D g T h0 s17 hW.2.1 q rq (by omega) hp18.1.1) ⟨rfl, rfl, ⟨by decide, by decide⟩, ⟨by decide, by decide⟩⟩ rfl rfl (Nat.le_of_ble_eq_true rfl) dX5_readPieces_56) hW (fun x21 s22 H locs rx21 hp23 hW => ?_)
        obtain ⟨fs22, hp23⟩ := hp23
        have hF24 := hF19.call fs22 (fun k h => by omega)
        have ghp23 := hp23.2
        refine x_if_ne (tgt := 64) hx hb rx21 dX5_readPieces_59 (by decide) (fun c25 => ?_) (fun c25 => ?_)
        · skip
          refine x_aload_n hx hb hl 1 rfl dX5_readPieces_64 rfl ?_
          refine x_get (j := 1) (v := .ref (h0 + 118)) hx hb hown hT hE hW cls_X5 (Or.inl (by decide)) (so_117 h0 g _) (by decide) rfl wq294 dX5_readPieces_65 ?_
          refine x_iload_n hx hb hl 0 rfl dX5_readPieces_68 rfl ?_
          refine x_gov (x_runVN (As := [.int (xJ x16)]) hx hb hml hown hT hE hW hl.1 (Or.inl (by decide)) (so_118 h0 g _) rfl cf_X4_landSkip wq692 wq25 wn690 (c_X4_landSkip l D g T h0 s22 hW.2.1 x16 rx16 hp23.1.1) ⟨rfl, rfl, ⟨by decide, by decide⟩, ⟨by decide, by decide⟩⟩ rfl rfl (Nat.le_of_ble_eq_true rfl) dX5_readPieces_69) hW (fun s27 H locs hp28 hW => ?_)
          obtain ⟨fs27, hp28⟩ := hp28
          have hF29 := hF24.call fs27 (fun k h => by omega)
          have q30 : s27 1 1 = s0 1 1 := (congrFun (fs27 _ (by omega)) _).trans (hp23.1.2.1.trans q20)
          have ghp28 := hp28.2
          refine x_iinc (lv' := [(2, .int (xJ (i2_12 + 1))), (3, .int (xJ x16)), (0, .ref (h0 + 117)), (1, .int (xJ q))]) hx hb hl 3 rfl dX5_readPieces_72 (by decide) rfl (fun ls hl => ?_)
          refine lv_goto (tgt := 12) hx hb dX5_readPieces_75 (by decide) ?_
          exact ih12 (i2_12 + 1) s27 H locs ls (by omega) hF29 hp28.1.1 q30 (by omega) (by omega) (by omega) hW (lv_sub hl [2, 3, 0] rfl)
        refine x_iconst hx hb dX5_readPieces_62 ?_
        rw [eQ]
        exact x_zret hx hb hr hlk hW (by omega) ⟨hF24, ⟨hp23.1.1, (hp23.1.2.1.trans q20), trivial⟩, by omega⟩ dX5_readPieces_63
    exact L12 ((300 + 1 - 0 : Int).toNat + 1) 0 s2 H locs ls (by decide) hF4 hp3.1.1 (hp3.1.2.1.trans k1_1) (by omega) (by omega) (Nat.lt_succ_self _) hW (lv_sub hl [1, 2, 0] rfl)
  refine x_iconst hx hb dX5_readPieces_8 ?_
  rw [eQ]
  exact x_zret hx hb hr hlk hW (by omega) ⟨hF4, ⟨hp3.1.1, (hp3.1.2.1.trans k1_1), trivial⟩, by omega⟩ dX5_readPieces_9
set_option maxHeartbeats 4000000 in
set_option maxRecDepth 100000 in
theorem c_X5_readPartsL1 (l : Launch) (D : va_G) (g : xG) (T : Nat × Nat × Nat) (h0 : Nat) (s0 : xS) (hσ : xRR s0) (q : Int) (rq : xR q) (hq : q = 1) (p0 : IC s0) : Met l yX5_readParts (xws yX5_readParts cX5_readParts 4 (some .boolean)) { frames := 23, cells := 0, slots := 0, locals := 528 } (xP [.ref (h0 + 117), .int (xJ q)] D g T h0 s0) (xQi D g h0 (fun r τ => xFr (fun k => k = 1 ∨ k = 118 ∨ k = 119 ∨ k = 120) s0 τ ∧ (((IC τ) ∧ (τ 1 1 = s0 1 1) ∧ True) ∧ (r = 0 ∨ r = 1)))) 0 0 (xA h0) := by
  refine x_met hσ (by decide) (Nat.le_of_ble_eq_true rfl) ?_
  intro p e s m args below meth c hx hb hr hml hown hT hlk hnm hE hW ls hl
  have hl : lv_has ls 4 [(0, .ref (h0 + 117)), (1, .int (xJ q))] := hl
  obtain ⟨Q, eQ⟩ : ∃ Q, Q = MQ below (xQi D g h0 (fun r τ => xFr (fun k => k = 1 ∨ k = 118 ∨ k = 119 ∨ k = 120) s0 τ ∧ (((IC τ) ∧ (τ 1 1 = s0 1 1) ∧ True) ∧ (r = 0 ∨ r = 1)))) args s 0 0 (xA h0) := ⟨_, rfl⟩
  rw [← eQ]
  generalize hHe : ([] : List Loc) = locs at hW ⊢
  obtain ⟨H, eH⟩ : ∃ H, H = s.heap := ⟨_, rfl⟩
  rw [← eH] at hW ⊢
  have hF : xFr (fun k => k = 1 ∨ k = 118 ∨ k = 119 ∨ k = 120) s0 s0 := xFr.rf
  have k1_1 : s0 1 1 = s0 1 1 := rfl
  refine x_aload_n hx hb hl 0 rfl dX5_readParts_0 rfl ?_
  refine x_iload_n hx hb hl 1 rfl dX5_readParts_1 rfl ?_
  refine x_goi (x_runV (As := [.int (xJ q)]) hx hb hml hown hT hE hW hl.1 (Or.inl (by decide)) (so_117 h0 g _) rfl cf_X5_readPieces wq684 wq23 wq682 (c_X5_readPiecesL1 l D g T h0 s0 hW.2.1 q rq (by omega) p0) ⟨rfl, rfl, ⟨by decide, by decide⟩, ⟨by decide, by decide⟩⟩ rfl rfl (Nat.le_of_ble_eq_true rfl) dX5_readParts_2) hW (fun x1 s2 H locs rx1 hp3 hW => ?_)
  obtain ⟨fs2, hp3⟩ := hp3
  have hF4 := hF.call fs2 (fun k h => by omega)
  have ghp3 := hp3.2
  refine x_if_ne (tgt := 10) hx hb rx1 dX5_readParts_5 (by decide) (fun c5 => ?_) (fun c5 => ?_)
  · skip
    refine x_iconst hx hb dX5_readParts_10 ?_
    refine lv_istore_n (lv' := [(2, .int (xJ 0)), (0, .ref (h0 + 117)), (1, .int (xJ q))]) hx hb dX5_readParts_11 rfl hl (by decide) rfl (fun ls hl => ?_)
    have L12 : ∀ (fu : Nat) (i2_12 : Int) (s_12 : xS) (H : Heap) (locs : List Loc) (ls : Array Slot), (xR i2_12) → (xFr (fun k => k = 1 ∨ k = 118 ∨ k = 119 ∨ k = 120) s0 s_12) → (IC s_12) → (s_12 1 1 = s0 1 1) → (0 ≤ i2_12) → (i2_12 ≤ 300) → (300 + 1 - i2_12).toNat < fu → xW D g h0 s H locs s_12 → lv_has ls 4 [(0, .ref (h0 + 117)), (1, .int (xJ q)), (2, .int (xJ i2_12))] → W p l e { frames := 23, cells := 0, slots := 0, locals := 528 } s m args below meth c H locs 0 0 Q (F0 m 12 ls []) := by
      intro fu
      induction fu with
      | zero => intro i2_12 s_12 H locs ls ri2_12 hF_12 q12_0 q12_1 v12_0 v12_1 hm; exact absurd hm (Nat.not_lt_zero _)
      | succ fu ih12 =>
        intro i2_12 s_12 H locs ls ri2_12 hF_12 q12_0 q12_1 v12_0 v12_1 hm hW hl
        refine x_iload_n hx hb hl 2 rfl dX5_readParts_12 rfl ?_
        refine x_sipush hx hb dX5_readParts_13 (by decide) ?_
        refine x_icmp_ge (tgt := 78) hx hb ri2_12 (by decide) dX5_readParts_16 (by decide) (fun c6 => ?_) (fun c6 => ?_)
        · skip
          refine x_iconst hx hb dX5_readParts_78 ?_
          rw [eQ]
          exact x_zret hx hb hr hlk hW (by omega) ⟨hF_12, ⟨q12_0, q12_1, trivial⟩, by omega⟩ dX5_readParts_79
        refine x_aload_n hx hb hl 0 rfl dX5_readParts_19 rfl ?_
        refine x_get (j := 0) (v := .ref (h0 + 1)) hx hb hown hT hE hW cls_X5 (Or.inl (by decide)) (so_117 h0 g _) (by decide) rfl wq293 dX5_readParts_20 ?_
        refine x_goi (x_runVN (As := []) hx hb hml hown hT hE hW hl.1 (Or.inl (by decide)) (so_1 h0 g _) rfl cf_X8_sign wq581 wq4 wn641 (c_X8_sign l D g T h0 s_12 hW.2.1 q12_0) ⟨rfl, rfl, ⟨by decide, by decide⟩, ⟨by decide, by decide⟩⟩ rfl rfl (Nat.le_of_ble_eq_true rfl) dX5_readParts_23) hW (fun x7 s8 H locs rx7 hp9 hW => ?_)
        obtain ⟨es8, hp9⟩ := hp9
        subst es8
        have ghp9 := hp9
        refine x_bipush hx hb dX5_readParts_26 (by decide) ?_
        refine x_icmp_ne (tgt := 78) hx hb rx7 (by decide) dX5_readParts_28 (by decide) (fun c10 => ?_) (fun c10 => ?_)
        · skip
          refine x_iconst hx hb dX5_readParts_78 ?_
          rw [eQ]
          exact x_zret hx hb hr hlk hW (by omega) ⟨hF_12, ⟨q12_0, q12_1, trivial⟩, by omega⟩ dX5_readParts_79
        refine x_aload_n hx hb hl 0 rfl dX5_readParts_31 rfl ?_
        refine x_get (j := 0) (v := .ref (h0 + 1)) hx hb hown hT hE hW cls_X5 (Or.inl (by decide)) (so_117 h0 g _) (by decide) rfl wq293 dX5_readParts_32 ?_
        refine lv_dup hx hb dX5_readParts_35 rfl ?_
        refine x_getN (j := 3) (v := .int (xJ (s_12 1 3))) hx hb hown hT hE hW cls_X8 (Or.inl (by decide)) (so_1 h0 g _) (by decide) rfl wn201 dX5_readParts_36 ?_
        refine x_rd hW (fun x11 ex11 rx11 => ?_)
        refine x_iconst hx hb dX5_readParts_39 ?_
        refine x_iadd hx hb dX5_readParts_40 ?_
        refine x_putN (j := 3) hx hb hown hT hE hW cls_X8 (by decide) (fun σ => so_1 h0 g σ) (by decide) (st_X8_3 h0 s_12 1 (x11 + 1)) (ln_X8_3 h0 _ _) wn201 rfl rfl rfl (by omega) dX5_readParts_41 (fun H locs s12 es12 hW => ?_)
        have q13 : IC s12 := by rw [es12]; exact IC_1 q12_0 (by omega)
        have q14 : s12 1 1 = s0 1 1 := (show s12 1 1 = s_12 1 1 from by rw [es12, xU_j _ _ (by decide)]).trans q12_1
        have hF15 := hF_12.put es12 (by omega)
        refine x_aload_n hx hb hl 0 rfl dX5_readParts_44 rfl ?_
        refine x_get (j := 1) (v := .ref (h0 + 118)) hx hb hown hT hE hW cls_X5 (Or.inl (by decide)) (so_117 h0 g _) (by decide) rfl wq294 dX5_readParts_45 ?_
        refine x_iconst hx hb dX5_readParts_48 ?_
        refine x_iconst hx hb dX5_readParts_49 ?_
        refine x_goi (x_runVN (As := [.int (xJ 5), .int (xJ 0)]) hx hb hml hown hT hE hW hl.1 (Or.inl (by decide)) (so_118 h0 g _) rfl cf_X4_put wq672 wq21 wn670 (c_X4_put l D g T h0 s12 hW.2.1 5 (by decide) 0 (by decide) q13) ⟨rfl, rfl, ⟨by decide, by decide⟩, ⟨by decide, by decide⟩⟩ rfl rfl (Nat.le_of_ble_eq_true rfl) dX5_readParts_50) hW (fun x16 s17 H locs rx16 hp18 hW => ?_)
        obtain ⟨fs17, hp18⟩ := hp18
        have hF19 := hF15.call fs17 (fun k h => by omega)
        have q20 : s17 1 1 = s0 1 1 := (congrFun (fs17 _ (by omega)) _).trans q14
        have ghp18 := hp18.2
        refine lv_istore_n (lv' := [(3, .int (xJ x16)), (0, .ref (h0 + 117)), (1, .int (xJ q)), (2, .int (xJ i2_12))]) hx hb dX5_readParts_53 rfl hl (by decide) rfl (fun ls hl => ?_)
        refine x_aload_n hx hb hl 1 rfl dX5_readParts_54 rfl ?_
        refine x_iload_n hx hb hl 2 rfl dX5_readParts_55 rfl ?_
        refine x_goi (x_runV (As := [.int (xJ q)]) hx hb hml hown hT hE hW hl.1 (Or.inl (by decide)) (so_117 h0 g _) rfl cf_X5_readPieces wq684 wq23 wq682 (c_X5_readPiecesL1 l D g T h0 s17 hW.2.1 q rq (by omega) hp18.1.1) ⟨rfl, rfl, ⟨by decide, by decide⟩, ⟨by decide, by decide⟩⟩ rfl rfl (Nat.le_of_ble_eq_true rfl) dX5_readParts_56) hW (fun x21 s22 H locs rx21 hp23 hW => ?_)
        obtain ⟨fs22, hp23⟩ := hp23
        have hF24 := hF19.call fs22 (fun k h => by omega)
        have ghp23 := hp23.2
        refine x_if_ne (tgt := 64) hx hb rx21 dX5_readParts_59 (by decide) (fun c25 => ?_) (fun c25 => ?_)
        · skip
          refine x_aload_n hx hb hl 1 rfl dX5_readParts_64 rfl ?_
          refine x_get (j := 1) (v := .ref (h0 + 118)) hx hb hown hT hE hW cls_X5 (Or.inl (by decide)) (so_117 h0 g _) (by decide) rfl wq294 dX5_readParts_65 ?_
          refine x_iload_n hx hb hl 0 rfl dX5_readParts_68 rfl ?_
          refine x_gov (x_runVN (As := [.int (xJ x16)]) hx hb hml hown hT hE hW hl.1 (Or.inl (by decide)) (so_118 h0 g _) rfl cf_X4_landSkip wq692 wq25 wn690 (c_X4_landSkip l D g T h0 s22 hW.2.1 x16 rx16 hp23.1.1) ⟨rfl, rfl, ⟨by decide, by decide⟩, ⟨by decide, by decide⟩⟩ rfl rfl (Nat.le_of_ble_eq_true rfl) dX5_readParts_69) hW (fun s27 H locs hp28 hW => ?_)
          obtain ⟨fs27, hp28⟩ := hp28
          have hF29 := hF24.call fs27 (fun k h => by omega)
          have q30 : s27 1 1 = s0 1 1 := (congrFun (fs27 _ (by omega)) _).trans (hp23.1.2.1.trans q20)
          have ghp28 := hp28.2
          refine x_iinc (lv' := [(2, .int (xJ (i2_12 + 1))), (3, .int (xJ x16)), (0, .ref (h0 + 117)), (1, .int (xJ q))]) hx hb hl 3 rfl dX5_readParts_72 (by decide) rfl (fun ls hl => ?_)
          refine lv_goto (tgt := 12) hx hb dX5_readParts_75 (by decide) ?_
          exact ih12 (i2_12 + 1) s27 H locs ls (by omega) hF29 hp28.1.1 q30 (by omega) (by omega) (by omega) hW (lv_sub hl [2, 3, 0] rfl)
        refine x_iconst hx hb dX5_readParts_62 ?_
        rw [eQ]
        exact x_zret hx hb hr hlk hW (by omega) ⟨hF24, ⟨hp23.1.1, (hp23.1.2.1.trans q20), trivial⟩, by omega⟩ dX5_readParts_63
    exact L12 ((300 + 1 - 0 : Int).toNat + 1) 0 s2 H locs ls (by decide) hF4 hp3.1.1 (hp3.1.2.1.trans k1_1) (by omega) (by omega) (Nat.lt_succ_self _) hW (lv_sub hl [1, 2, 0] rfl)
  refine x_iconst hx hb dX5_readParts_8 ?_
  rw [eQ]
  exact x_zret hx hb hr hlk hW (by omega) ⟨hF4, ⟨hp3.1.1, (hp3.1.2.1.trans k1_1), trivial⟩, by omega⟩ dX5_readParts_9
set_option maxHeartbeats 4000000 in
set_option maxRecDepth 100000 in
theorem c_X5_readClause (l : Launch) (D : va_G) (g : xG) (T : Nat × Nat × Nat) (h0 : Nat) (s0 : xS) (hσ : xRR s0) (x : Int) (rx : xR x) (i : Int) (ri : xR i) (p0 : IC s0) : Met l yX5_readClause (xws yX5_readClause cX5_readClause 3 (some .boolean)) { frames := 24, cells := 0, slots := 0, locals := 551 } (xP [.ref (h0 + 117), .int (xJ x), .int (xJ i)] D g T h0 s0) (xQi D g h0 (fun r τ => xFr (fun k => k = 1 ∨ k = 118 ∨ k = 119 ∨ k = 120 ∨ k = 121 ∨ k = 122 ∨ k = 123) s0 τ ∧ (((IC τ) ∧ (τ 1 1 = s0 1 1) ∧ True) ∧ (r = 0 ∨ r = 1)))) 0 0 (xA h0) := by
  refine x_met hσ (by decide) (Nat.le_of_ble_eq_true rfl) ?_
  intro p e s m args below meth c hx hb hr hml hown hT hlk hnm hE hW ls hl
  have hl : lv_has ls 3 [(0, .ref (h0 + 117)), (1, .int (xJ x)), (2, .int (xJ i))] := hl
  obtain ⟨Q, eQ⟩ : ∃ Q, Q = MQ below (xQi D g h0 (fun r τ => xFr (fun k => k = 1 ∨ k = 118 ∨ k = 119 ∨ k = 120 ∨ k = 121 ∨ k = 122 ∨ k = 123) s0 τ ∧ (((IC τ) ∧ (τ 1 1 = s0 1 1) ∧ True) ∧ (r = 0 ∨ r = 1)))) args s 0 0 (xA h0) := ⟨_, rfl⟩
  rw [← eQ]
  generalize hHe : ([] : List Loc) = locs at hW ⊢
  obtain ⟨H, eH⟩ : ∃ H, H = s.heap := ⟨_, rfl⟩
  rw [← eH] at hW ⊢
  have hF : xFr (fun k => k = 1 ∨ k = 118 ∨ k = 119 ∨ k = 120 ∨ k = 121 ∨ k = 122 ∨ k = 123) s0 s0 := xFr.rf
  have k1_1 : s0 1 1 = s0 1 1 := rfl
  refine x_iload_n hx hb hl 2 rfl dX5_readClause_0 rfl ?_
  refine x_if_lt (tgt := 10) hx hb ri dX5_readClause_1 (by decide) (fun c1 => ?_) (fun c1 => ?_)
  · skip
    refine x_iconst hx hb dX5_readClause_10 ?_
    rw [eQ]
    exact x_zret hx hb hr hlk hW (by omega) ⟨hF, ⟨p0, k1_1, trivial⟩, by omega⟩ dX5_readClause_11
  refine x_iload_n hx hb hl 2 rfl dX5_readClause_4 rfl ?_
  refine x_bipush hx hb dX5_readClause_5 (by decide) ?_
  refine x_icmp_lt (tgt := 12) hx hb ri (by decide) dX5_readClause_7 (by decide) (fun c2 => ?_) (fun c2 => ?_)
  · skip
    refine x_aload_n hx hb hl 0 rfl dX5_readClause_12 rfl ?_
    refine x_get (j := 1) (v := .ref (h0 + 118)) hx hb hown hT hE hW cls_X5 (Or.inl (by decide)) (so_117 h0 g _) (by decide) rfl wq294 dX5_readClause_13 ?_
    refine x_getN (j := 3) (v := .ref (h0 + 121)) hx hb hown hT hE hW cls_X4 (Or.inl (by decide)) (so_118 h0 g _) (by decide) rfl wn256 dX5_readClause_16 ?_
    refine x_iload_n hx hb hl 2 rfl dX5_readClause_19 rfl ?_
    refine x_iload_n hx hb hl 1 rfl dX5_readClause_20 rfl ?_
    refine x_iast hx hb hE hW (by decide) (fun σ => sa_121 h0 g σ) (by omega) (by decide) rx dX5_readClause_21 (fun H locs s3 es3 hW => ?_)
    have q4 : IC s3 := by rw [es3]; exact IC_o (by decide) p0
    have q5 : s3 1 1 = s0 1 1 := (show s3 1 1 = s0 1 1 from by rw [es3, xU_k _ _ _ (by omega)]).trans k1_1
    have hF6 := hF.put es3 (by omega)
    refine x_aload_n hx hb hl 0 rfl dX5_readClause_22 rfl ?_
    refine x_get (j := 1) (v := .ref (h0 + 118)) hx hb hown hT hE hW cls_X5 (Or.inl (by decide)) (so_117 h0 g _) (by decide) rfl wq294 dX5_readClause_23 ?_
    refine x_getN (j := 4) (v := .ref (h0 + 122)) hx hb hown hT hE hW cls_X4 (Or.inl (by decide)) (so_118 h0 g _) (by decide) rfl wn258 dX5_readClause_26 ?_
    refine x_iload_n hx hb hl 2 rfl dX5_readClause_29 rfl ?_
    refine x_aload_n hx hb hl 0 rfl dX5_readClause_30 rfl ?_
    refine x_get (j := 1) (v := .ref (h0 + 118)) hx hb hown hT hE hW cls_X5 (Or.inl (by decide)) (so_117 h0 g _) (by decide) rfl wq294 dX5_readClause_31 ?_
    refine x_getN (j := 2) (v := .int (xJ (s3 118 2))) hx hb hown hT hE hW cls_X4 (Or.inl (by decide)) (so_118 h0 g _) (by decide) rfl wn254 dX5_readClause_34 ?_
    refine x_rd hW (fun x7 ex7 rx7 => ?_)
    have bx7 : 0 ≤ x7 ∧ x7 ≤ 300 := by rw [ex7]; exact (IC.l2 q4).1
    refine x_iast hx hb hE hW (by decide) (fun σ => sa_122 h0 g σ) (by omega) (by decide) rx7 dX5_readClause_37 (fun H locs s8 es8 hW => ?_)
    have q9 : IC s8 := by rw [es8]; exact IC_o (by decide) q4
    have q10 : s8 1 1 = s0 1 1 := (show s8 1 1 = s3 1 1 from by rw [es8, xU_k _ _ _ (by omega)]).trans q5
    have hF11 := hF6.put es8 (by omega)
    refine x_iload_n hx hb hl 1 rfl dX5_readClause_38 rfl ?_
    refine x_bipush hx hb dX5_readClause_39 (by decide) ?_
    have J54 : ∀ (s_54 : xS) (H : Heap) (locs : List Loc) (ls : Array Slot), (xFr (fun k => k = 1 ∨ k = 118 ∨ k = 119 ∨ k = 120 ∨ k = 121 ∨ k = 122 ∨ k = 123) s0 s_54) → (IC s_54) → (s_54 1 1 = s0 1 1) → xW D g h0 s H locs s_54 → lv_has ls 3 [(0, .ref (h0 + 117)), (2, .int (xJ i))] → W p l e { frames := 24, cells := 0, slots := 0, locals := 551 } s m args below meth c H locs 0 0 Q (F0 m 54 ls []) := by
      intro s_54 H locs ls hF_54 q54_0 q54_1 hW hl
      refine x_aload_n hx hb hl 0 rfl dX5_readClause_54 rfl ?_
      refine x_get (j := 1) (v := .ref (h0 + 118)) hx hb hown hT hE hW cls_X5 (Or.inl (by decide)) (so_117 h0 g _) (by decide) rfl wq294 dX5_readClause_55 ?_
      refine x_iconst hx hb dX5_readClause_58 ?_
      refine x_iconst hx hb dX5_readClause_59 ?_
      refine x_goi (x_runVN (As := [.int (xJ 0), .int (xJ 0)]) hx hb hml hown hT hE hW hl.1 (Or.inl (by decide)) (so_118 h0 g _) rfl cf_X4_put wq672 wq21 wn670 (c_X4_put l D g T h0 s_54 hW.2.1 0 (by decide) 0 (by decide) q54_0) ⟨rfl, rfl, ⟨by decide, by decide⟩, ⟨by decide, by decide⟩⟩ rfl rfl (Nat.le_of_ble_eq_true rfl) dX5_readClause_60) hW (fun x12 s13 H locs rx12 hp14 hW => ?_)
      obtain ⟨fs13, hp14⟩ := hp14
      have hF15 := hF_54.call fs13 (fun k h => by omega)
      have q16 : s13 1 1 = s0 1 1 := (congrFun (fs13 _ (by omega)) _).trans q54_1
      have ghp14 := hp14.2
      refine lv_pop hx hb dX5_readClause_63 rfl ?_
      refine x_aload_n hx hb hl 0 rfl dX5_readClause_64 rfl ?_
      refine x_get (j := 1) (v := .ref (h0 + 118)) hx hb hown hT hE hW cls_X5 (Or.inl (by decide)) (so_117 h0 g _) (by decide) rfl wq294 dX5_readClause_65 ?_
      refine x_getN (j := 5) (v := .ref (h0 + 123)) hx hb hown hT hE hW cls_X4 (Or.inl (by decide)) (so_118 h0 g _) (by decide) rfl wn260 dX5_readClause_68 ?_
      refine x_iload_n hx hb hl 1 rfl dX5_readClause_71 rfl ?_
      refine x_aload_n hx hb hl 0 rfl dX5_readClause_72 rfl ?_
      refine x_get (j := 1) (v := .ref (h0 + 118)) hx hb hown hT hE hW cls_X5 (Or.inl (by decide)) (so_117 h0 g _) (by decide) rfl wq294 dX5_readClause_73 ?_
      refine x_getN (j := 2) (v := .int (xJ (s13 118 2))) hx hb hown hT hE hW cls_X4 (Or.inl (by decide)) (so_118 h0 g _) (by decide) rfl wn254 dX5_readClause_76 ?_
      refine x_rd hW (fun x17 ex17 rx17 => ?_)
      have bx17 : 0 ≤ x17 ∧ x17 ≤ 300 := by rw [ex17]; exact (IC.l2 hp14.1.1).1
      refine x_iast hx hb hE hW (by decide) (fun σ => sa_123 h0 g σ) (by omega) (by decide) rx17 dX5_readClause_79 (fun H locs s18 es18 hW => ?_)
      have q19 : s18 1 1 = s0 1 1 := (show s18 1 1 = s13 1 1 from by rw [es18, xU_k _ _ _ (by omega)]).trans q16
      have q20 : IC s18 := by rw [es18]; exact IC_o (by decide) hp14.1.1
      have hF21 := hF15.put es18 (by omega)
      refine x_aload_n hx hb hl 0 rfl dX5_readClause_80 rfl ?_
      refine x_get (j := 0) (v := .ref (h0 + 1)) hx hb hown hT hE hW cls_X5 (Or.inl (by decide)) (so_117 h0 g _) (by decide) rfl wq293 dX5_readClause_81 ?_
      refine x_bipush hx hb dX5_readClause_84 (by decide) ?_
      refine x_goi (x_runVN (As := [.int (xJ 40)]) hx hb hml hown hT hE hW hl.1 (Or.inl (by decide)) (so_1 h0 g _) rfl cf_X8_passes wq598 wq6 wn674 (c_X8_passes l D g T h0 s18 hW.2.1 40 (by decide) q20) ⟨rfl, rfl, ⟨by decide, by decide⟩, ⟨by decide, by decide⟩⟩ rfl rfl (Nat.le_of_ble_eq_true rfl) dX5_readClause_86) hW (fun x22 s23 H locs rx22 hp24 hW => ?_)
      obtain ⟨fs23, hp24⟩ := hp24
      have hF25 := hF21.call fs23 (fun k h => by omega)
      have ghp24 := hp24.2
      refine x_if_eq (tgt := 112) hx hb rx22 dX5_readClause_89 (by decide) (fun c26 => ?_) (fun c26 => ?_)
      · skip
        refine x_iconst hx hb dX5_readClause_112 ?_
        rw [eQ]
        exact x_zret hx hb hr hlk hW (by omega) ⟨hF25, ⟨hp24.1.1, (hp24.1.2.1.trans q19), trivial⟩, by omega⟩ dX5_readClause_113
      refine x_aload_n hx hb hl 0 rfl dX5_readClause_92 rfl ?_
      refine x_iconst hx hb dX5_readClause_93 ?_
      refine x_goi (x_runV (As := [.int (xJ 1)]) hx hb hml hown hT hE hW hl.1 (Or.inl (by decide)) (so_117 h0 g _) rfl cf_X5_readParts wq680 wq22 wq678 (c_X5_readPartsL1 l D g T h0 s23 hW.2.1 1 (by decide) (by omega) hp24.1.1) ⟨rfl, rfl, ⟨by decide, by decide⟩, ⟨by decide, by decide⟩⟩ rfl rfl (Nat.le_of_ble_eq_true rfl) dX5_readClause_94) hW (fun x27 s28 H locs rx27 hp29 hW => ?_)
      obtain ⟨fs28, hp29⟩ := hp29
      have hF30 := hF25.call fs28 (fun k h => by omega)
      have ghp29 := hp29.2
      refine x_if_eq (tgt := 112) hx hb rx27 dX5_readClause_97 (by decide) (fun c31 => ?_) (fun c31 => ?_)
      · skip
        refine x_iconst hx hb dX5_readClause_112 ?_
        rw [eQ]
        exact x_zret hx hb hr hlk hW (by omega) ⟨hF30, ⟨hp29.1.1, (hp29.1.2.1.trans (hp24.1.2.1.trans q19)), trivial⟩, by omega⟩ dX5_readClause_113
      refine x_aload_n hx hb hl 0 rfl dX5_readClause_100 rfl ?_
      refine x_get (j := 0) (v := .ref (h0 + 1)) hx hb hown hT hE hW cls_X5 (Or.inl (by decide)) (so_117 h0 g _) (by decide) rfl wq293 dX5_readClause_101 ?_
      refine x_bipush hx hb dX5_readClause_104 (by decide) ?_
      refine x_goi (x_runVN (As := [.int (xJ 41)]) hx hb hml hown hT hE hW hl.1 (Or.inl (by decide)) (so_1 h0 g _) rfl cf_X8_passes wq598 wq6 wn674 (c_X8_passes l D g T h0 s28 hW.2.1 41 (by decide) hp29.1.1) ⟨rfl, rfl, ⟨by decide, by decide⟩, ⟨by decide, by decide⟩⟩ rfl rfl (Nat.le_of_ble_eq_true rfl) dX5_readClause_106) hW (fun x32 s33 H locs rx32 hp34 hW => ?_)
      obtain ⟨fs33, hp34⟩ := hp34
      have hF35 := hF30.call fs33 (fun k h => by omega)
      have ghp34 := hp34.2
      refine x_if_ne (tgt := 114) hx hb rx32 dX5_readClause_109 (by decide) (fun c36 => ?_) (fun c36 => ?_)
      · skip
        refine x_aload_n hx hb hl 0 rfl dX5_readClause_114 rfl ?_
        refine x_get (j := 1) (v := .ref (h0 + 118)) hx hb hown hT hE hW cls_X5 (Or.inl (by decide)) (so_117 h0 g _) (by decide) rfl wq294 dX5_readClause_115 ?_
        refine x_iconst hx hb dX5_readClause_118 ?_
        refine x_iconst hx hb dX5_readClause_119 ?_
        refine x_goi (x_runVN (As := [.int (xJ 0), .int (xJ 0)]) hx hb hml hown hT hE hW hl.1 (Or.inl (by decide)) (so_118 h0 g _) rfl cf_X4_put wq672 wq21 wn670 (c_X4_put l D g T h0 s33 hW.2.1 0 (by decide) 0 (by decide) hp34.1.1) ⟨rfl, rfl, ⟨by decide, by decide⟩, ⟨by decide, by decide⟩⟩ rfl rfl (Nat.le_of_ble_eq_true rfl) dX5_readClause_120) hW (fun x37 s38 H locs rx37 hp39 hW => ?_)
        obtain ⟨fs38, hp39⟩ := hp39
        have hF40 := hF35.call fs38 (fun k h => by omega)
        have q41 : s38 1 1 = s0 1 1 := (congrFun (fs38 _ (by omega)) _).trans (hp34.1.2.1.trans (hp29.1.2.1.trans (hp24.1.2.1.trans q19)))
        have ghp39 := hp39.2
        refine lv_pop hx hb dX5_readClause_123 rfl ?_
        refine x_iconst hx hb dX5_readClause_124 ?_
        rw [eQ]
        exact x_zret hx hb hr hlk hW (by omega) ⟨hF40, ⟨hp39.1.1, q41, trivial⟩, by omega⟩ dX5_readClause_125
      refine x_iconst hx hb dX5_readClause_112 ?_
      rw [eQ]
      exact x_zret hx hb hr hlk hW (by omega) ⟨hF35, ⟨hp34.1.1, (hp34.1.2.1.trans (hp29.1.2.1.trans (hp24.1.2.1.trans q19))), trivial⟩, by omega⟩ dX5_readClause_113
    refine x_icmp_eq (tgt := 54) hx hb rx (by decide) dX5_readClause_41 (by decide) (fun c42 => ?_) (fun c42 => ?_)
    · skip
      exact J54 s8 H locs ls hF11 q9 q10 hW (lv_sub hl [0, 2] rfl)
    refine x_aload_n hx hb hl 0 rfl dX5_readClause_44 rfl ?_
    refine x_iconst hx hb dX5_readClause_45 ?_
    refine x_goi (x_runV (As := [.int (xJ 0)]) hx hb hml hown hT hE hW hl.1 (Or.inl (by decide)) (so_117 h0 g _) rfl cf_X5_readSum wq652 wq16 wq650 (c_X5_readSumL0 l D g T h0 s8 hW.2.1 0 (by decide) (by omega) q9) ⟨rfl, rfl, ⟨by decide, by decide⟩, ⟨by decide, by decide⟩⟩ rfl rfl (Nat.le_of_ble_eq_true rfl) dX5_readClause_46) hW (fun x43 s44 H locs rx43 hp45 hW => ?_)
    obtain ⟨fs44, hp45⟩ := hp45
    have hF46 := hF11.call fs44 (fun k h => by omega)
    have ghp45 := hp45.2
    refine x_if_ne (tgt := 54) hx hb rx43 dX5_readClause_49 (by decide) (fun c47 => ?_) (fun c47 => ?_)
    · skip
      exact J54 s44 H locs ls hF46 hp45.1.1 (hp45.1.2.1.trans q10) hW (lv_sub hl [0, 2] rfl)
    refine x_iconst hx hb dX5_readClause_52 ?_
    rw [eQ]
    exact x_zret hx hb hr hlk hW (by omega) ⟨hF46, ⟨hp45.1.1, (hp45.1.2.1.trans q10), trivial⟩, by omega⟩ dX5_readClause_53
  refine x_iconst hx hb dX5_readClause_10 ?_
  rw [eQ]
  exact x_zret hx hb hr hlk hW (by omega) ⟨hF, ⟨p0, k1_1, trivial⟩, by omega⟩ dX5_readClause_11
set_option maxHeartbeats 4000000 in
set_option maxRecDepth 100000 in
theorem c_X5_readWhole (l : Launch) (D : va_G) (g : xG) (T : Nat × Nat × Nat) (h0 : Nat) (s0 : xS) (hσ : xRR s0) (p0 : IC s0) : Met l yX5_readWhole (xws yX5_readWhole cX5_readWhole 3 (some .boolean)) { frames := 25, cells := 0, slots := 0, locals := 573 } (xP [.ref (h0 + 117)] D g T h0 s0) (xQi D g h0 (fun r τ => xFr (fun k => k = 1 ∨ k = 118 ∨ k = 119 ∨ k = 120 ∨ k = 121 ∨ k = 122 ∨ k = 123) s0 τ ∧ (((IC τ) ∧ (τ 1 1 = s0 1 1) ∧ True) ∧ (r = 0 ∨ r = 1)))) 0 0 (xA h0) := by
  refine x_met hσ (by decide) (Nat.le_of_ble_eq_true rfl) ?_
  intro p e s m args below meth c hx hb hr hml hown hT hlk hnm hE hW ls hl
  have hl : lv_has ls 3 [(0, .ref (h0 + 117))] := hl
  obtain ⟨Q, eQ⟩ : ∃ Q, Q = MQ below (xQi D g h0 (fun r τ => xFr (fun k => k = 1 ∨ k = 118 ∨ k = 119 ∨ k = 120 ∨ k = 121 ∨ k = 122 ∨ k = 123) s0 τ ∧ (((IC τ) ∧ (τ 1 1 = s0 1 1) ∧ True) ∧ (r = 0 ∨ r = 1)))) args s 0 0 (xA h0) := ⟨_, rfl⟩
  rw [← eQ]
  generalize hHe : ([] : List Loc) = locs at hW ⊢
  obtain ⟨H, eH⟩ : ∃ H, H = s.heap := ⟨_, rfl⟩
  rw [← eH] at hW ⊢
  have hF : xFr (fun k => k = 1 ∨ k = 118 ∨ k = 119 ∨ k = 120 ∨ k = 121 ∨ k = 122 ∨ k = 123) s0 s0 := xFr.rf
  have k1_1 : s0 1 1 = s0 1 1 := rfl
  refine x_aload_n hx hb hl 0 rfl dX5_readWhole_0 rfl ?_
  refine x_get (j := 1) (v := .ref (h0 + 118)) hx hb hown hT hE hW cls_X5 (Or.inl (by decide)) (so_117 h0 g _) (by decide) rfl wq294 dX5_readWhole_1 ?_
  refine x_gov (x_runVN (As := []) hx hb hml hown hT hE hW hl.1 (Or.inl (by decide)) (so_118 h0 g _) rfl cf_X4_empty wq639 wq14 wn637 (c_X4_empty l D g T h0 s0 hW.2.1 p0) ⟨rfl, rfl, ⟨by decide, by decide⟩, ⟨by decide, by decide⟩⟩ rfl rfl (Nat.le_of_ble_eq_true rfl) dX5_readWhole_4) hW (fun s2 H locs hp3 hW => ?_)
  obtain ⟨fs2, hp3⟩ := hp3
  have hF4 := hF.call fs2 (fun k h => by omega)
  have q5 : s2 1 1 = s0 1 1 := (congrFun (fs2 _ (by omega)) _).trans k1_1
  have ghp3 := hp3.2
  refine x_iconst hx hb dX5_readWhole_7 ?_
  refine lv_istore_n (lv' := [(1, .int (xJ 0)), (0, .ref (h0 + 117))]) hx hb dX5_readWhole_8 rfl hl (by decide) rfl (fun ls hl => ?_)
  have L9 : ∀ (fu : Nat) (i1_9 : Int) (s_9 : xS) (H : Heap) (locs : List Loc) (ls : Array Slot), (xR i1_9) → (xFr (fun k => k = 1 ∨ k = 118 ∨ k = 119 ∨ k = 120 ∨ k = 121 ∨ k = 122 ∨ k = 123) s0 s_9) → (s_9 1 1 = s0 1 1) → (IC s_9) → (0 ≤ i1_9) → (i1_9 ≤ 16) → (16 + 1 - i1_9).toNat < fu → xW D g h0 s H locs s_9 → lv_has ls 3 [(0, .ref (h0 + 117)), (1, .int (xJ i1_9))] → W p l e { frames := 25, cells := 0, slots := 0, locals := 573 } s m args below meth c H locs 0 0 Q (F0 m 9 ls []) := by
    intro fu
    induction fu with
    | zero => intro i1_9 s_9 H locs ls ri1_9 hF_9 q9_0 q9_1 v9_0 v9_1 hm; exact absurd hm (Nat.not_lt_zero _)
    | succ fu ih9 =>
      intro i1_9 s_9 H locs ls ri1_9 hF_9 q9_0 q9_1 v9_0 v9_1 hm hW hl
      refine x_iload_n hx hb hl 1 rfl dX5_readWhole_9 rfl ?_
      refine x_bipush hx hb dX5_readWhole_10 (by decide) ?_
      refine x_icmp_gt (tgt := 135) hx hb ri1_9 (by decide) dX5_readWhole_12 (by decide) (fun c6 => ?_) (fun c6 => ?_)
      · skip
        refine x_iconst hx hb dX5_readWhole_135 ?_
        rw [eQ]
        exact x_zret hx hb hr hlk hW (by omega) ⟨hF_9, ⟨q9_1, q9_0, trivial⟩, by omega⟩ dX5_readWhole_136
      refine x_aload_n hx hb hl 0 rfl dX5_readWhole_15 rfl ?_
      refine x_get (j := 0) (v := .ref (h0 + 1)) hx hb hown hT hE hW cls_X5 (Or.inl (by decide)) (so_117 h0 g _) (by decide) rfl wq293 dX5_readWhole_16 ?_
      refine x_goi (x_runVN (As := []) hx hb hml hown hT hE hW hl.1 (Or.inl (by decide)) (so_1 h0 g _) rfl cf_X8_sign wq581 wq4 wn641 (c_X8_sign l D g T h0 s_9 hW.2.1 q9_1) ⟨rfl, rfl, ⟨by decide, by decide⟩, ⟨by decide, by decide⟩⟩ rfl rfl (Nat.le_of_ble_eq_true rfl) dX5_readWhole_19) hW (fun x7 s8 H locs rx7 hp9 hW => ?_)
      obtain ⟨es8, hp9⟩ := hp9
      subst es8
      have ghp9 := hp9
      refine lv_istore_n (lv' := [(2, .int (xJ x7)), (0, .ref (h0 + 117)), (1, .int (xJ i1_9))]) hx hb dX5_readWhole_22 rfl hl (by decide) rfl (fun ls hl => ?_)
      refine x_iload_n hx hb hl 0 rfl dX5_readWhole_23 rfl ?_
      refine x_goi (x_runS (As := [.int (xJ x7)]) hx hb hml hown hT hE hW hl.1 cf_X5_isKind wq643 wq642 (c_X5_isKind l D g T h0 s_9 hW.2.1 x7 rx7) ⟨rfl, rfl, ⟨by decide, by decide⟩, ⟨by decide, by decide⟩⟩ rfl rfl (Nat.le_of_ble_eq_true rfl) dX5_readWhole_24) hW (fun x10 s11 H locs rx10 hp12 hW => ?_)
      obtain ⟨es11, hp12⟩ := hp12
      subst es11
      have ghp12 := hp12
      refine x_if_ne (tgt := 46) hx hb rx10 dX5_readWhole_27 (by decide) (fun c13 => ?_) (fun c13 => ?_)
      · skip
        refine x_iload_n hx hb hl 2 rfl dX5_readWhole_46 rfl ?_
        refine x_bipush hx hb dX5_readWhole_47 (by decide) ?_
        refine x_icmp_ne (tgt := 68) hx hb ri1_9 (by decide) dX5_readWhole_49 (by decide) (fun c14 => ?_) (fun c14 => ?_)
        · skip
          refine x_aload_n hx hb hl 1 rfl dX5_readWhole_68 rfl ?_
          refine x_get (j := 0) (v := .ref (h0 + 1)) hx hb hown hT hE hW cls_X5 (Or.inl (by decide)) (so_117 h0 g _) (by decide) rfl wq293 dX5_readWhole_69 ?_
          refine lv_dup hx hb dX5_readWhole_72 rfl ?_
          refine x_getN (j := 3) (v := .int (xJ (s_9 1 3))) hx hb hown hT hE hW cls_X8 (Or.inl (by decide)) (so_1 h0 g _) (by decide) rfl wn201 dX5_readWhole_73 ?_
          refine x_rd hW (fun x15 ex15 rx15 => ?_)
          refine x_iconst hx hb dX5_readWhole_76 ?_
          refine x_iadd hx hb dX5_readWhole_77 ?_
          refine x_putN (j := 3) hx hb hown hT hE hW cls_X8 (by decide) (fun σ => so_1 h0 g σ) (by decide) (st_X8_3 h0 s_9 1 (x15 + 1)) (ln_X8_3 h0 _ _) wn201 rfl rfl rfl (by omega) dX5_readWhole_78 (fun H locs s16 es16 hW => ?_)
          have q17 : s16 1 1 = s0 1 1 := (show s16 1 1 = s_9 1 1 from by rw [es16, xU_j _ _ (by decide)]).trans q9_0
          have q18 : IC s16 := by rw [es16]; exact IC_1 q9_1 (by omega)
          have hF19 := hF_9.put es16 (by omega)
          refine x_aload_n hx hb hl 1 rfl dX5_readWhole_81 rfl ?_
          refine x_iload_n hx hb hl 0 rfl dX5_readWhole_82 rfl ?_
          refine x_iload_n hx hb hl 2 rfl dX5_readWhole_83 rfl ?_
          refine x_goi (x_runV (As := [.int (xJ x7), .int (xJ i1_9)]) hx hb hml hown hT hE hW hl.1 (Or.inl (by decide)) (so_117 h0 g _) rfl cf_X5_readClause wq648 wq15 wq646 (c_X5_readClause l D g T h0 s16 hW.2.1 x7 rx7 i1_9 ri1_9 q18) ⟨rfl, rfl, ⟨by decide, by decide⟩, ⟨by decide, by decide⟩⟩ rfl rfl (Nat.le_of_ble_eq_true rfl) dX5_readWhole_84) hW (fun x20 s21 H locs rx20 hp22 hW => ?_)
          obtain ⟨fs21, hp22⟩ := hp22
          have hF23 := hF19.call fs21 (fun k h => by omega)
          have ghp22 := hp22.2
          refine x_if_ne (tgt := 92) hx hb rx20 dX5_readWhole_87 (by decide) (fun c24 => ?_) (fun c24 => ?_)
          · skip
            refine x_aload_n hx hb hl 1 rfl dX5_readWhole_92 rfl ?_
            refine x_get (j := 1) (v := .ref (h0 + 118)) hx hb hown hT hE hW cls_X5 (Or.inl (by decide)) (so_117 h0 g _) (by decide) rfl wq294 dX5_readWhole_93 ?_
            refine x_iload_n hx hb hl 2 rfl dX5_readWhole_96 rfl ?_
            refine x_iconst hx hb dX5_readWhole_97 ?_
            refine x_iadd hx hb dX5_readWhole_98 ?_
            refine x_putN (j := 6) hx hb hown hT hE hW cls_X4 (by decide) (fun σ => so_118 h0 g σ) (by decide) (st_X4_6 h0 s21 118 (i1_9 + 1)) (ln_X4_6 h0 _ _) wn262 rfl rfl rfl (by omega) dX5_readWhole_99 (fun H locs s25 es25 hW => ?_)
            have q26 : IC s25 := by rw [es25]; exact IC_L_118 hp22.1.1 (by omega)
            have q27 : s25 1 1 = s0 1 1 := (show s25 1 1 = s21 1 1 from by rw [es25, xU_k _ _ _ (by omega)]).trans (hp22.1.2.1.trans q17)
            have hF28 := hF23.put es25 (by omega)
            refine x_aload_n hx hb hl 1 rfl dX5_readWhole_102 rfl ?_
            refine x_get (j := 0) (v := .ref (h0 + 1)) hx hb hown hT hE hW cls_X5 (Or.inl (by decide)) (so_117 h0 g _) (by decide) rfl wq293 dX5_readWhole_103 ?_
            refine x_goi (x_runVN (As := []) hx hb hml hown hT hE hW hl.1 (Or.inl (by decide)) (so_1 h0 g _) rfl cf_X8_sign wq581 wq4 wn641 (c_X8_sign l D g T h0 s25 hW.2.1 q26) ⟨rfl, rfl, ⟨by decide, by decide⟩, ⟨by decide, by decide⟩⟩ rfl rfl (Nat.le_of_ble_eq_true rfl) dX5_readWhole_106) hW (fun x29 s30 H locs rx29 hp31 hW => ?_)
            obtain ⟨es30, hp31⟩ := hp31
            subst es30
            have ghp31 := hp31
            refine x_iconst hx hb dX5_readWhole_109 ?_
            refine x_icmp_ne (tgt := 115) hx hb rx29 (by decide) dX5_readWhole_110 (by decide) (fun c32 => ?_) (fun c32 => ?_)
            · skip
              refine x_aload_n hx hb hl 1 rfl dX5_readWhole_115 rfl ?_
              refine x_get (j := 0) (v := .ref (h0 + 1)) hx hb hown hT hE hW cls_X5 (Or.inl (by decide)) (so_117 h0 g _) (by decide) rfl wq293 dX5_readWhole_116 ?_
              refine x_bipush hx hb dX5_readWhole_119 (by decide) ?_
              refine x_goi (x_runVN (As := [.int (xJ 59)]) hx hb hml hown hT hE hW hl.1 (Or.inl (by decide)) (so_1 h0 g _) rfl cf_X8_passes wq598 wq6 wn674 (c_X8_passes l D g T h0 s25 hW.2.1 59 (by decide) q26) ⟨rfl, rfl, ⟨by decide, by decide⟩, ⟨by decide, by decide⟩⟩ rfl rfl (Nat.le_of_ble_eq_true rfl) dX5_readWhole_121) hW (fun x33 s34 H locs rx33 hp35 hW => ?_)
              obtain ⟨fs34, hp35⟩ := hp35
              have hF36 := hF28.call fs34 (fun k h => by omega)
              have ghp35 := hp35.2
              refine x_if_ne (tgt := 129) hx hb rx33 dX5_readWhole_124 (by decide) (fun c37 => ?_) (fun c37 => ?_)
              · skip
                refine x_iinc (lv' := [(1, .int (xJ (i1_9 + 1))), (2, .int (xJ x7)), (0, .ref (h0 + 117))]) hx hb hl 2 rfl dX5_readWhole_129 (by decide) rfl (fun ls hl => ?_)
                refine lv_goto (tgt := 9) hx hb dX5_readWhole_132 (by decide) ?_
                exact ih9 (i1_9 + 1) s34 H locs ls (by omega) hF36 (hp35.1.2.1.trans q27) hp35.1.1 (by omega) (by omega) (by omega) hW (lv_sub hl [2, 0] rfl)
              refine x_iconst hx hb dX5_readWhole_127 ?_
              rw [eQ]
              exact x_zret hx hb hr hlk hW (by omega) ⟨hF36, ⟨hp35.1.1, (hp35.1.2.1.trans q27), trivial⟩, by omega⟩ dX5_readWhole_128
            refine x_iconst hx hb dX5_readWhole_113 ?_
            rw [eQ]
            exact x_zret hx hb hr hlk hW (by omega) ⟨hF28, ⟨q26, q27, trivial⟩, by omega⟩ dX5_readWhole_114
          refine x_iconst hx hb dX5_readWhole_90 ?_
          rw [eQ]
          exact x_zret hx hb hr hlk hW (by omega) ⟨hF23, ⟨hp22.1.1, (hp22.1.2.1.trans q17), trivial⟩, by omega⟩ dX5_readWhole_91
        refine x_aload_n hx hb hl 1 rfl dX5_readWhole_52 rfl ?_
        refine x_get (j := 0) (v := .ref (h0 + 1)) hx hb hown hT hE hW cls_X5 (Or.inl (by decide)) (so_117 h0 g _) (by decide) rfl wq293 dX5_readWhole_53 ?_
        refine x_iconst hx hb dX5_readWhole_56 ?_
        refine x_aload_n hx hb hl 1 rfl dX5_readWhole_57 rfl ?_
        refine x_get (j := 0) (v := .ref (h0 + 1)) hx hb hown hT hE hW cls_X5 (Or.inl (by decide)) (so_117 h0 g _) (by decide) rfl wq293 dX5_readWhole_58 ?_
        refine x_getN (j := 3) (v := .int (xJ (s_9 1 3))) hx hb hown hT hE hW cls_X8 (Or.inl (by decide)) (so_1 h0 g _) (by decide) rfl wn201 dX5_readWhole_61 ?_
        refine x_rd hW (fun x38 ex38 rx38 => ?_)
        refine x_goi (x_runVN (As := [.int (xJ 4), .int (xJ x38)]) hx hb hml hown hT hE hW hl.1 (Or.inl (by decide)) (so_1 h0 g _) rfl cf_X8_fails wq588 wq5 wn645 (c_X8_fails l D g T h0 s_9 hW.2.1 4 (by decide) x38 rx38 q9_1) ⟨rfl, rfl, ⟨by decide, by decide⟩, ⟨by decide, by decide⟩⟩ rfl rfl (Nat.le_of_ble_eq_true rfl) dX5_readWhole_64) hW (fun x39 s40 H locs rx39 hp41 hW => ?_)
        obtain ⟨fs40, hp41⟩ := hp41
        have hF42 := hF_9.call fs40 (fun k h => by omega)
        have ghp41 := hp41.2
        rw [eQ]
        exact x_zret hx hb hr hlk hW (by omega) ⟨hF42, ⟨hp41.1.1, (hp41.1.2.1.trans q9_0), trivial⟩, by omega⟩ dX5_readWhole_67
      refine x_aload_n hx hb hl 1 rfl dX5_readWhole_30 rfl ?_
      refine x_get (j := 0) (v := .ref (h0 + 1)) hx hb hown hT hE hW cls_X5 (Or.inl (by decide)) (so_117 h0 g _) (by decide) rfl wq293 dX5_readWhole_31 ?_
      refine x_iconst hx hb dX5_readWhole_34 ?_
      refine x_aload_n hx hb hl 1 rfl dX5_readWhole_35 rfl ?_
      refine x_get (j := 0) (v := .ref (h0 + 1)) hx hb hown hT hE hW cls_X5 (Or.inl (by decide)) (so_117 h0 g _) (by decide) rfl wq293 dX5_readWhole_36 ?_
      refine x_getN (j := 3) (v := .int (xJ (s_9 1 3))) hx hb hown hT hE hW cls_X8 (Or.inl (by decide)) (so_1 h0 g _) (by decide) rfl wn201 dX5_readWhole_39 ?_
      refine x_rd hW (fun x43 ex43 rx43 => ?_)
      refine x_goi (x_runVN (As := [.int (xJ 1), .int (xJ x43)]) hx hb hml hown hT hE hW hl.1 (Or.inl (by decide)) (so_1 h0 g _) rfl cf_X8_fails wq588 wq5 wn645 (c_X8_fails l D g T h0 s_9 hW.2.1 1 (by decide) x43 rx43 q9_1) ⟨rfl, rfl, ⟨by decide, by decide⟩, ⟨by decide, by decide⟩⟩ rfl rfl (Nat.le_of_ble_eq_true rfl) dX5_readWhole_42) hW (fun x44 s45 H locs rx44 hp46 hW => ?_)
      obtain ⟨fs45, hp46⟩ := hp46
      have hF47 := hF_9.call fs45 (fun k h => by omega)
      have ghp46 := hp46.2
      rw [eQ]
      exact x_zret hx hb hr hlk hW (by omega) ⟨hF47, ⟨hp46.1.1, (hp46.1.2.1.trans q9_0), trivial⟩, by omega⟩ dX5_readWhole_45
  exact L9 ((16 + 1 - 0 : Int).toNat + 1) 0 s2 H locs ls (by decide) hF4 q5 hp3.1.1 (by omega) (by omega) (Nat.lt_succ_self _) hW (lv_sub hl [1, 0] rfl)

