set_option maxHeartbeats 4000000 in
set_option maxRecDepth 100000 in
theorem c_X6_besideJ (l : Launch) (D : va_G) (g : xG) (T : Nat × Nat × Nat) (h0 : Nat) (s0 : xS) (hσ : xRR s0) (x : Int) (rx : xR x) (w : Int) (rw : xR w) : Met l yX6_beside (xws yX6_beside cX6_beside 4 (some .int)) { frames := 0, cells := 0, slots := 0, locals := 0 } (xP [.int (xJ x), .int (xJ w)] D g T h0 s0) (xQi D g h0 (fun r τ => s0 = τ ∧ (((0 ≤ x ∧ x < 100 ∧ 0 ≤ w ∧ w < 8) ∧ r = zbe x w) ∨ (¬ (0 ≤ x ∧ x < 100 ∧ 0 ≤ w ∧ w < 8) ∧ r = -1)))) 0 0 (xA h0) := by
  refine x_met hσ (by decide) (Nat.le_of_ble_eq_true rfl) ?_
  intro p e s m args below meth c hx hb hr hml hown hT hlk hnm hE hW ls hl
  have hl : lv_has ls 4 [(0, .int (xJ x)), (1, .int (xJ w))] := hl
  obtain ⟨Q, eQ⟩ : ∃ Q, Q = MQ below (xQi D g h0 (fun r τ => s0 = τ ∧ (((0 ≤ x ∧ x < 100 ∧ 0 ≤ w ∧ w < 8) ∧ r = zbe x w) ∨ (¬ (0 ≤ x ∧ x < 100 ∧ 0 ≤ w ∧ w < 8) ∧ r = -1)))) args s 0 0 (xA h0) := ⟨_, rfl⟩
  rw [← eQ]
  generalize hHe : ([] : List Loc) = locs at hW ⊢
  obtain ⟨H, eH⟩ : ∃ H, H = s.heap := ⟨_, rfl⟩
  rw [← eH] at hW ⊢
  refine x_iload_n hx hb hl 0 rfl dX6_beside_0 rfl ?_
  refine x_if_lt (tgt := 20) hx hb rx dX6_beside_1 (by decide) (fun c1 => ?_) (fun c1 => ?_)
  · skip
    refine x_iconst hx hb dX6_beside_20 ?_
    rw [eQ]
    exact x_iret hx hb hr hlk hW (by decide) ⟨rfl, Or.inr ⟨by omega, rfl⟩⟩ dX6_beside_21
  refine x_iload_n hx hb hl 0 rfl dX6_beside_4 rfl ?_
  refine x_bipush hx hb dX6_beside_5 (by decide) ?_
  refine x_icmp_ge (tgt := 20) hx hb rx (by decide) dX6_beside_7 (by decide) (fun c2 => ?_) (fun c2 => ?_)
  · skip
    refine x_iconst hx hb dX6_beside_20 ?_
    rw [eQ]
    exact x_iret hx hb hr hlk hW (by decide) ⟨rfl, Or.inr ⟨by omega, rfl⟩⟩ dX6_beside_21
  refine x_iload_n hx hb hl 1 rfl dX6_beside_10 rfl ?_
  refine x_if_lt (tgt := 20) hx hb rw dX6_beside_11 (by decide) (fun c3 => ?_) (fun c3 => ?_)
  · skip
    refine x_iconst hx hb dX6_beside_20 ?_
    rw [eQ]
    exact x_iret hx hb hr hlk hW (by decide) ⟨rfl, Or.inr ⟨by omega, rfl⟩⟩ dX6_beside_21
  refine x_iload_n hx hb hl 1 rfl dX6_beside_14 rfl ?_
  refine x_bipush hx hb dX6_beside_15 (by decide) ?_
  refine x_icmp_lt (tgt := 22) hx hb rw (by decide) dX6_beside_17 (by decide) (fun c4 => ?_) (fun c4 => ?_)
  · skip
    refine x_iload_n hx hb hl 0 rfl dX6_beside_22 rfl ?_
    refine x_bipush hx hb dX6_beside_23 (by decide) ?_
    refine x_irem hx hb rx (by decide) (by omega) (by decide) dX6_beside_25 ?_
    refine va_getsN hx hb hE.2.2.1.1 hW.2.2 hown (xE_N hE wn786 rfl) (fun _ h9 => h9) dX6_beside_26 ?_
    refine x_iload_n hx hb hl 1 rfl dX6_beside_29 rfl ?_
    refine x_wx hx hb hE hW (by omega) dX6_beside_30 ?_
    refine x_nm (fun x5 ex5 => ?_)
    have rx5 : -1 ≤ x5 ∧ x5 ≤ 1 := by rw [ex5]; exact xwx_in _
    have V30 : x5 = zwx w := ex5.trans (zwx_t (by omega))
    refine x_iadd hx hb dX6_beside_31 ?_
    refine x_nm (fun x6 ex6 => ?_)
    refine lv_istore_n (lv' := [(2, .int (xJ x6)), (0, .int (xJ x)), (1, .int (xJ w))]) hx hb dX6_beside_32 rfl hl (by decide) rfl (fun ls hl => ?_)
    refine x_iload_n hx hb hl 1 rfl dX6_beside_33 rfl ?_
    refine x_bipush hx hb dX6_beside_34 (by decide) ?_
    refine x_idiv hx hb rx (by decide) (by omega) (by decide) dX6_beside_36 ?_
    refine va_getsN hx hb hE.2.2.2.1.1 hW.2.2 hown (xE_N hE wn788 rfl) (fun _ h9 => h9) dX6_beside_37 ?_
    refine x_iload_n hx hb hl 2 rfl dX6_beside_40 rfl ?_
    refine x_wy hx hb hE hW (by omega) dX6_beside_41 ?_
    refine x_nm (fun x7 ex7 => ?_)
    have rx7 : -1 ≤ x7 ∧ x7 ≤ 1 := by rw [ex7]; exact xwy_in _
    have V41 : x7 = zwy w := ex7.trans (zwy_t (by omega))
    refine x_iadd hx hb dX6_beside_42 ?_
    refine x_nm (fun x8 ex8 => ?_)
    refine lv_istore_n (lv' := [(3, .int (xJ x8)), (2, .int (xJ x6)), (0, .int (xJ x)), (1, .int (xJ w))]) hx hb dX6_beside_43 rfl hl (by decide) rfl (fun ls hl => ?_)
    have B43 : 0 ≤ x ∧ x < 100 ∧ 0 ≤ w ∧ w < 8 := by omega
    refine x_iload_n hx hb hl 1 rfl dX6_beside_44 rfl ?_
    refine x_if_lt (tgt := 73) hx hb (by omega) dX6_beside_45 (by decide) (fun c9 => ?_) (fun c9 => ?_)
    · skip
      refine x_iconst hx hb dX6_beside_73 ?_
      rw [eQ]
      exact x_iret hx hb hr hlk hW (by decide) ⟨rfl, Or.inl ⟨B43, zbe_i (s := x) (w := w) (x := x6) (y := x8) (by omega) (by omega) (by first | exact Or.inl ⟨by omega, by omega, by omega, by omega, by omega⟩ | exact Or.inr ⟨by omega, by omega⟩)⟩⟩ dX6_beside_74
    refine x_iload_n hx hb hl 1 rfl dX6_beside_48 rfl ?_
    refine x_bipush hx hb dX6_beside_49 (by decide) ?_
    refine x_icmp_ge (tgt := 73) hx hb (by omega) (by decide) dX6_beside_51 (by decide) (fun c10 => ?_) (fun c10 => ?_)
    · skip
      refine x_iconst hx hb dX6_beside_73 ?_
      rw [eQ]
      exact x_iret hx hb hr hlk hW (by decide) ⟨rfl, Or.inl ⟨B43, zbe_i (s := x) (w := w) (x := x6) (y := x8) (by omega) (by omega) (by first | exact Or.inl ⟨by omega, by omega, by omega, by omega, by omega⟩ | exact Or.inr ⟨by omega, by omega⟩)⟩⟩ dX6_beside_74
    refine x_iload_n hx hb hl 0 rfl dX6_beside_54 rfl ?_
    refine x_if_lt (tgt := 73) hx hb (by omega) dX6_beside_55 (by decide) (fun c11 => ?_) (fun c11 => ?_)
    · skip
      refine x_iconst hx hb dX6_beside_73 ?_
      rw [eQ]
      exact x_iret hx hb hr hlk hW (by decide) ⟨rfl, Or.inl ⟨B43, zbe_i (s := x) (w := w) (x := x6) (y := x8) (by omega) (by omega) (by first | exact Or.inl ⟨by omega, by omega, by omega, by omega, by omega⟩ | exact Or.inr ⟨by omega, by omega⟩)⟩⟩ dX6_beside_74
    refine x_iload_n hx hb hl 0 rfl dX6_beside_58 rfl ?_
    refine x_bipush hx hb dX6_beside_59 (by decide) ?_
    refine x_icmp_ge (tgt := 73) hx hb (by omega) (by decide) dX6_beside_61 (by decide) (fun c12 => ?_) (fun c12 => ?_)
    · skip
      refine x_iconst hx hb dX6_beside_73 ?_
      rw [eQ]
      exact x_iret hx hb hr hlk hW (by decide) ⟨rfl, Or.inl ⟨B43, zbe_i (s := x) (w := w) (x := x6) (y := x8) (by omega) (by omega) (by first | exact Or.inl ⟨by omega, by omega, by omega, by omega, by omega⟩ | exact Or.inr ⟨by omega, by omega⟩)⟩⟩ dX6_beside_74
    refine x_bipush hx hb dX6_beside_64 (by decide) ?_
    refine x_iload_n hx hb hl 0 rfl dX6_beside_66 rfl ?_
    refine x_imul hx hb dX6_beside_67 ?_
    refine x_iload_n hx hb hl 1 rfl dX6_beside_68 rfl ?_
    refine x_iadd hx hb dX6_beside_69 ?_
    refine lv_goto (tgt := 74) hx hb dX6_beside_70 (by decide) ?_
    rw [eQ]
    exact x_iret hx hb hr hlk hW (by omega) ⟨rfl, Or.inl ⟨B43, zbe_i (s := x) (w := w) (x := x6) (y := x8) (by omega) (by omega) (by first | exact Or.inl ⟨by omega, by omega, by omega, by omega, by omega⟩ | exact Or.inr ⟨by omega, by omega⟩)⟩⟩ dX6_beside_74
  refine x_iconst hx hb dX6_beside_20 ?_
  rw [eQ]
  exact x_iret hx hb hr hlk hW (by decide) ⟨rfl, Or.inr ⟨by omega, rfl⟩⟩ dX6_beside_21
set_option maxHeartbeats 4000000 in
set_option maxRecDepth 100000 in
theorem c_X2_hasJudgeJ (l : Launch) (D : va_G) (g : xG) (T : Nat × Nat × Nat) (h0 : Nat) (s0 : xS) (hσ : xRR s0) (d : Nat) (hd : xDay d) (j : Int) (rj : xR j) (p0 : IC s0) : Met l yX2_hasJudge (xws yX2_hasJudge cX2_hasJudge 2 (some .boolean)) { frames := 0, cells := 0, slots := 0, locals := 0 } (xP [.ref (h0 + d), .int (xJ j)] D g T h0 s0) (xQi D g h0 (fun r τ => s0 = τ ∧ ((r = 1 ∧ 0 ≤ j ∧ j < 2 ∧ s0 (d + 1) j ≠ -1) ∨ (r = 0 ∧ ¬ (0 ≤ j ∧ j < 2 ∧ s0 (d + 1) j ≠ -1))))) 0 0 (xA h0) := by
  refine x_met hσ (by decide) (Nat.le_of_ble_eq_true rfl) ?_
  intro p e s m args below meth c hx hb hr hml hown hT hlk hnm hE hW ls hl
  have hl : lv_has ls 2 [(0, .ref (h0 + d)), (1, .int (xJ j))] := hl
  obtain ⟨Q, eQ⟩ : ∃ Q, Q = MQ below (xQi D g h0 (fun r τ => s0 = τ ∧ ((r = 1 ∧ 0 ≤ j ∧ j < 2 ∧ s0 (d + 1) j ≠ -1) ∨ (r = 0 ∧ ¬ (0 ≤ j ∧ j < 2 ∧ s0 (d + 1) j ≠ -1))))) args s 0 0 (xA h0) := ⟨_, rfl⟩
  rw [← eQ]
  generalize hHe : ([] : List Loc) = locs at hW ⊢
  obtain ⟨H, eH⟩ : ∃ H, H = s.heap := ⟨_, rfl⟩
  rw [← eH] at hW ⊢
  have hbd : (136 ≤ d ∧ d < 209) ∧ (d ≤ 146 ∨ 158 ≤ d) := by unfold xDay at hd; omega
  have k1_1 : s0 1 1 = s0 1 1 := rfl
  refine x_iload_n hx hb hl 1 rfl dX2_hasJudge_0 rfl ?_
  refine x_if_lt (tgt := 23) hx hb rj dX2_hasJudge_1 (by decide) (fun c1 => ?_) (fun c1 => ?_)
  · skip
    refine x_iconst hx hb dX2_hasJudge_23 ?_
    rw [eQ]
    exact x_zret hx hb hr hlk hW (by omega) ⟨rfl, by omega⟩ dX2_hasJudge_24
  refine x_iload_n hx hb hl 1 rfl dX2_hasJudge_4 rfl ?_
  refine x_iconst hx hb dX2_hasJudge_5 ?_
  refine x_icmp_ge (tgt := 23) hx hb rj (by decide) dX2_hasJudge_6 (by decide) (fun c2 => ?_) (fun c2 => ?_)
  · skip
    refine x_iconst hx hb dX2_hasJudge_23 ?_
    rw [eQ]
    exact x_zret hx hb hr hlk hW (by omega) ⟨rfl, by omega⟩ dX2_hasJudge_24
  refine x_aload_n hx hb hl 0 rfl dX2_hasJudge_9 rfl ?_
  refine x_get (j := 0) (v := .ref (h0 + (d + 1))) hx hb hown hT hE hW cls_X2 (Or.inl (by omega)) (so_day0 h0 g hd _) (by decide) rfl wq383 dX2_hasJudge_10 ?_
  refine x_iload_n hx hb hl 1 rfl dX2_hasJudge_13 rfl ?_
  refine x_iald hx hb hE hW (Or.inl (by omega)) (sa_day1 h0 g hd _) (by omega) (by decide) dX2_hasJudge_14 ?_
  refine x_rd hW (fun x3 ex3 rx3 => ?_)
  refine x_iconst hx hb dX2_hasJudge_15 ?_
  refine x_icmp_eq (tgt := 23) hx hb rx3 (by decide) dX2_hasJudge_16 (by decide) (fun c4 => ?_) (fun c4 => ?_)
  · skip
    refine x_iconst hx hb dX2_hasJudge_23 ?_
    rw [eQ]
    exact x_zret hx hb hr hlk hW (by omega) ⟨rfl, by omega⟩ dX2_hasJudge_24
  refine x_iconst hx hb dX2_hasJudge_19 ?_
  refine lv_goto (tgt := 24) hx hb dX2_hasJudge_20 (by decide) ?_
  rw [eQ]
  exact x_zret hx hb hr hlk hW (by omega) ⟨rfl, by omega⟩ dX2_hasJudge_24
set_option maxHeartbeats 4000000 in
set_option maxRecDepth 100000 in
theorem c_X2_takeStepJ (l : Launch) (D : va_G) (g : xG) (T : Nat × Nat × Nat) (h0 : Nat) (s0 : xS) (hσ : xRR s0) (d : Nat) (hd : xDay d) (j : Int) (rj : xR j) (n9 : Int → Int) (w9 : Int → Int → Int) (hj : 0 ≤ j ∧ j < 2) (hw : zWc s0 d n9 w9) (p0 : IC s0) : Met l yX2_takeStep (xws yX2_takeStep cX2_takeStep 3 (some .int)) { frames := 1, cells := 0, slots := 0, locals := 21 } (xP [.ref (h0 + d), .int (xJ j)] D g T h0 s0) (xQi D g h0 (fun r τ => xFr (fun k => k = d + 5) s0 τ ∧ (((IC τ) ∧ True) ∧ ((n9 j ≤ s0 (d + 5) j ∧ r = 4 ∧ τ (d + 5) = s0 (d + 5)) ∨ (s0 (d + 5) j < n9 j ∧ 2 * r = w9 j (s0 (d + 5) j) ∧ (0 ≤ r ∧ r ≤ 4) ∧ τ (d + 5) = xud (s0 (d + 5)) j (s0 (d + 5) j + 1)))))) 0 0 (xA h0) := by
  refine x_met hσ (by decide) (Nat.le_of_ble_eq_true rfl) ?_
  intro p e s m args below meth c hx hb hr hml hown hT hlk hnm hE hW ls hl
  have hl : lv_has ls 3 [(0, .ref (h0 + d)), (1, .int (xJ j))] := hl
  obtain ⟨Q, eQ⟩ : ∃ Q, Q = MQ below (xQi D g h0 (fun r τ => xFr (fun k => k = d + 5) s0 τ ∧ (((IC τ) ∧ True) ∧ ((n9 j ≤ s0 (d + 5) j ∧ r = 4 ∧ τ (d + 5) = s0 (d + 5)) ∨ (s0 (d + 5) j < n9 j ∧ 2 * r = w9 j (s0 (d + 5) j) ∧ (0 ≤ r ∧ r ≤ 4) ∧ τ (d + 5) = xud (s0 (d + 5)) j (s0 (d + 5) j + 1)))))) args s 0 0 (xA h0) := ⟨_, rfl⟩
  rw [← eQ]
  generalize hHe : ([] : List Loc) = locs at hW ⊢
  obtain ⟨H, eH⟩ : ∃ H, H = s.heap := ⟨_, rfl⟩
  rw [← eH] at hW ⊢
  have hF : xFr (fun k => k = d + 5) s0 s0 := xFr.rf
  have hbd : (136 ≤ d ∧ d < 209) ∧ (d ≤ 146 ∨ 158 ≤ d) := by unfold xDay at hd; omega
  have k1_1 : s0 1 1 = s0 1 1 := rfl
  have kd_7 : s0 d 7 = s0 d 7 := rfl
  have hw1 := hw j hj.1 hj.2
  have hp5 := IC.p p0 hd j hj.1 hj.2
  refine x_aload_n hx hb hl 0 rfl dX2_takeStep_0 rfl ?_
  refine x_iload_n hx hb hl 1 rfl dX2_takeStep_1 rfl ?_
  refine x_goi (x_runV (As := [.int (xJ j)]) hx hb hml hown hT hE hW hl.1 (Or.inl (by omega)) (so_day0 h0 g hd _) rfl cf_X2_stepsLeft wq781 wq39 wq779 (c_X2_stepsLeft l D g T h0 s0 hW.2.1 d hd j rj p0) ⟨rfl, rfl, ⟨by decide, by decide⟩, ⟨by decide, by decide⟩⟩ rfl rfl (Nat.le_of_ble_eq_true rfl) dX2_takeStep_2) hW (fun x1 s2 H locs rx1 hp3 hW => ?_)
  obtain ⟨es2, hp3⟩ := hp3
  subst es2
  have ghp3 := hp3
  have H2 := (ghp3.resolve_right (fun q => by omega)).2.2
  rw [hw1.2.1] at H2
  refine x_if_le (tgt := 17) hx hb rx1 dX2_takeStep_5 (by decide) (fun c4 => ?_) (fun c4 => ?_)
  · skip
    refine x_iconst hx hb dX2_takeStep_17 ?_
    rw [eQ]
    exact x_iret hx hb hr hlk hW (by decide) ⟨hF, ⟨p0, trivial⟩, Or.inl ⟨by omega, rfl, rfl⟩⟩ dX2_takeStep_18
  refine x_aload_n hx hb hl 0 rfl dX2_takeStep_8 rfl ?_
  refine x_get (j := 2) (v := .ref (h0 + (d + 5))) hx hb hown hT hE hW cls_X2 (Or.inl (by omega)) (so_day0 h0 g hd _) (by decide) rfl wq387 dX2_takeStep_9 ?_
  refine x_iload_n hx hb hl 1 rfl dX2_takeStep_12 rfl ?_
  refine x_iald hx hb hE hW (Or.inl (by omega)) (sa_day5 h0 g hd _) (by omega) (by decide) dX2_takeStep_13 ?_
  refine x_rd hW (fun x5 ex5 rx5 => ?_)
  have bx5 : 0 ≤ x5 := by rw [ex5]; exact IC.p p0 hd _ (by omega) (by omega)
  refine x_if_ge (tgt := 19) hx hb rx5 dX2_takeStep_14 (by decide) (fun c6 => ?_) (fun c6 => ?_)
  · skip
    refine x_aload_n hx hb hl 0 rfl dX2_takeStep_19 rfl ?_
    refine x_get (j := 1) (v := .ref (h0 + (d + 2))) hx hb hown hT hE hW cls_X2 (Or.inl (by omega)) (so_day0 h0 g hd _) (by decide) rfl wq386 dX2_takeStep_20 ?_
    refine x_iload_n hx hb hl 1 rfl dX2_takeStep_23 rfl ?_
    refine x_aaldR (t0 := 3) (n := 2) (r := (s0 (d + 2) j).toNat) hx hb hE hW (by omega) rfl rfl (sg_day2 h0 g hd _) (by omega) (by decide) (by rw [xrow_day hd, Int.toNat_of_nonneg (by omega)]) dX2_takeStep_24 ?_
    obtain ⟨v7, ev7, rv7⟩ : ∃ v : Int, v = s0 (d + 2) j ∧ xR v := ⟨_, rfl, hW.2.1 _ _⟩
    have zv7 : (xlen s0 v7.toNat : Int) = xlen s0 (s0 (d + 2) j).toNat := by rw [ev7]
    have yv7 := xlen_le hW.2.1 v7.toNat
    rw [← ev7]
    have V24 := ev7
    refine x_aload_n hx hb hl 0 rfl dX2_takeStep_25 rfl ?_
    refine x_get (j := 2) (v := .ref (h0 + (d + 5))) hx hb hown hT hE hW cls_X2 (Or.inl (by omega)) (so_day0 h0 g hd _) (by decide) rfl wq387 dX2_takeStep_26 ?_
    refine x_iload_n hx hb hl 1 rfl dX2_takeStep_29 rfl ?_
    refine x_iald hx hb hE hW (Or.inl (by omega)) (sa_day5 h0 g hd _) (by omega) (by decide) dX2_takeStep_30 ?_
    refine x_rd hW (fun x8 ex8 rx8 => ?_)
    have bx8 : 0 ≤ x8 := by rw [ex8]; exact IC.p p0 hd _ (by omega) (by omega)
    have V30 : x8 = s0 (d + 5) j := ex8
    refine x_iald (k := (v7).toNat) (n := xlen s0 (v7).toNat) hx hb hE hW (show xAr s0 (v7).toNat from by rw [ev7]; exact IC.w p0 hd _ (by omega) (by omega)).v (show xAr s0 (v7).toNat from by rw [ev7]; exact IC.w p0 hd _ (by omega) (by omega)).celn (by omega) (xlen_le hW.2.1 _) dX2_takeStep_31 ?_
    refine x_rd hW (fun x9 ex9 rx9 => ?_)
    have V31 := ex9
    rw [V24, V30] at V31
    have W31 := hw1.2.2 (s0 (d + 5) j) hp5 (by omega)
    refine lv_istore_n (lv' := [(2, .int (xJ x9)), (0, .ref (h0 + d)), (1, .int (xJ j))]) hx hb dX2_takeStep_32 rfl hl (by decide) rfl (fun ls hl => ?_)
    refine x_aload_n hx hb hl 1 rfl dX2_takeStep_33 rfl ?_
    refine x_get (j := 2) (v := .ref (h0 + (d + 5))) hx hb hown hT hE hW cls_X2 (Or.inl (by omega)) (so_day0 h0 g hd _) (by decide) rfl wq387 dX2_takeStep_34 ?_
    refine x_iload_n hx hb hl 2 rfl dX2_takeStep_37 rfl ?_
    refine lv_dup2_11 hx hb dX2_takeStep_38 rfl rfl ?_
    refine x_iald hx hb hE hW (Or.inl (by omega)) (sa_day5 h0 g hd _) (by omega) (by decide) dX2_takeStep_39 ?_
    refine x_rd hW (fun x10 ex10 rx10 => ?_)
    have bx10 : 0 ≤ x10 := by rw [ex10]; exact IC.p p0 hd _ (by omega) (by omega)
    have V39 : x10 = s0 (d + 5) j := ex10
    refine x_iconst hx hb dX2_takeStep_40 ?_
    refine x_iadd hx hb dX2_takeStep_41 ?_
    refine x_iast hx hb hE hW (by omega) (fun σ => sa_day5 h0 g hd σ) (by omega) (by decide) (by omega) dX2_takeStep_42 (fun H locs s11 es11 hW => ?_)
    have q12 : IC s11 := by rw [es11]; exact IC_p hd p0 (by omega)
    have q13 : s11 1 1 = s0 1 1 := (show s11 1 1 = s0 1 1 from by rw [es11, xU_k _ _ _ (by first | decide | omega)]).trans k1_1
    have q14 : s11 d 7 = s0 d 7 := (show s11 d 7 = s0 d 7 from by rw [es11, xU_k _ _ _ (by first | decide | omega)]).trans kd_7
    have hF15 := hF.put es11 (by omega)
    have E42 := es11
    refine x_iload_n hx hb hl 0 rfl dX2_takeStep_43 rfl ?_
    rw [eQ]
    exact x_iret hx hb hr hlk hW rx9 ⟨hF15, ⟨q12, trivial⟩, Or.inr ⟨by omega, by omega, by omega, by rw [E42, xU_xud, V39]⟩⟩ dX2_takeStep_44
  refine x_iconst hx hb dX2_takeStep_17 ?_
  rw [eQ]
  exact x_iret hx hb hr hlk hW (by decide) ⟨hF, ⟨p0, trivial⟩, Or.inl ⟨by omega, rfl, rfl⟩⟩ dX2_takeStep_18
set_option maxHeartbeats 4000000 in
set_option maxRecDepth 100000 in
theorem c_X0_judgesStepJ (l : Launch) (D : va_G) (g : xG) (T : Nat × Nat × Nat) (h0 : Nat) (s0 : xS) (hσ : xRR s0) (d : Nat) (hd : xDay d) (K9 : Int → Int) (n9 : Int → Int) (w9 : Int → Int → Int) (hK : ∀ t : Int, 0 ≤ t → t < 100 → s0 4 t = K9 t) (hw : zWc s0 d n9 w9) (ho : zok (zt (s0 (d + 1)) (s0 (d + 5)))) (p0 : IC s0) : Met l yX0_judgesStep (xws yX0_judgesStep cX0_judgesStep 5 none) { frames := 2, cells := 0, slots := 0, locals := 43 } (xP [.ref (h0 + 128), .ref (h0 + d)] D g T h0 s0) (xQv D g h0 (fun τ => xFr (fun k => k = d + 1 ∨ k = d + 5) s0 τ ∧ (((IC τ) ∧ True) ∧ (zt (τ (d + 1)) (τ (d + 5)) = zjs K9 n9 w9 (zt (s0 (d + 1)) (s0 (d + 5))))))) 0 0 (xA h0) := by
  refine x_met hσ (by decide) (Nat.le_of_ble_eq_true rfl) ?_
  intro p e s m args below meth c hx hb hr hml hown hT hlk hnm hE hW ls hl
  have hl : lv_has ls 5 [(0, .ref (h0 + 128)), (1, .ref (h0 + d))] := hl
  obtain ⟨Q, eQ⟩ : ∃ Q, Q = MQ below (xQv D g h0 (fun τ => xFr (fun k => k = d + 1 ∨ k = d + 5) s0 τ ∧ (((IC τ) ∧ True) ∧ (zt (τ (d + 1)) (τ (d + 5)) = zjs K9 n9 w9 (zt (s0 (d + 1)) (s0 (d + 5))))))) args s 0 0 (xA h0) := ⟨_, rfl⟩
  rw [← eQ]
  generalize hHe : ([] : List Loc) = locs at hW ⊢
  obtain ⟨H, eH⟩ : ∃ H, H = s.heap := ⟨_, rfl⟩
  rw [← eH] at hW ⊢
  have hF : xFr (fun k => k = d + 1 ∨ k = d + 5) s0 s0 := xFr.rf
  have hbd : (136 ≤ d ∧ d < 209) ∧ (d ≤ 146 ∨ 158 ≤ d) := by unfold xDay at hd; omega
  have k1_1 : s0 1 1 = s0 1 1 := rfl
  have kd_7 : s0 d 7 = s0 d 7 := rfl
  refine x_iconst hx hb dX0_judgesStep_0 ?_
  refine lv_istore_n (lv' := [(2, .int (xJ 0)), (0, .ref (h0 + 128)), (1, .ref (h0 + d))]) hx hb dX0_judgesStep_1 rfl hl (by decide) rfl (fun ls hl => ?_)
  have L2 : ∀ (fu : Nat) (i2_2 : Int) (s_2 : xS) (H : Heap) (locs : List Loc) (ls : Array Slot), (xR i2_2) → (xFr (fun k => k = d + 1 ∨ k = d + 5) s0 s_2) → (IC s_2) → (s_2 1 1 = s0 1 1) → (s_2 d 7 = s0 d 7) → (0 ≤ i2_2 ∧ i2_2 ≤ 2) → (zt (s_2 (d + 1)) (s_2 (d + 5)) = zjp K9 n9 w9 i2_2 (zt (s0 (d + 1)) (s0 (d + 5)))) → (2 - i2_2).toNat < fu → xW D g h0 s H locs s_2 → lv_has ls 5 [(0, .ref (h0 + 128)), (1, .ref (h0 + d)), (2, .int (xJ i2_2))] → W p l e { frames := 2, cells := 0, slots := 0, locals := 43 } s m args below meth c H locs 0 0 Q (F0 m 2 ls []) := by
    intro fu
    induction fu with
    | zero => intro i2_2 s_2 H locs ls ri2_2 hF_2 q2_0 q2_1 q2_2 v2_0 v2_1 hm; exact absurd hm (Nat.not_lt_zero _)
    | succ fu ih2 =>
      intro i2_2 s_2 H locs ls ri2_2 hF_2 q2_0 q2_1 q2_2 v2_0 v2_1 hm hW hl
      have hm_2 := fun (_ : Unit) => hm
      clear hm
      have ok2 : zok (zt (s_2 (d + 1)) (s_2 (d + 5))) := by rw [v2_1]; exact zok_p ho
      refine x_iload_n hx hb hl 2 rfl dX0_judgesStep_2 rfl ?_
      refine x_iconst hx hb dX0_judgesStep_3 ?_
      refine x_icmp_ge (tgt := 85) hx hb ri2_2 (by decide) dX0_judgesStep_4 (by decide) (fun c1 => ?_) (fun c1 => ?_)
      · skip
        rw [eQ]
        exact x_vret hx hb hr hlk hW ⟨hF_2, ⟨q2_0, trivial⟩, by rw [← zjp_2 (k := i2_2) (by omega)]; exact v2_1⟩ dX0_judgesStep_85
      refine x_aload_n hx hb hl 1 rfl dX0_judgesStep_7 rfl ?_
      refine x_iload_n hx hb hl 2 rfl dX0_judgesStep_8 rfl ?_
      refine x_goi (x_runVN (As := [.int (xJ i2_2)]) hx hb hml hown hT hE hW hl.1 (Or.inl (by omega)) (so_day0 h0 g hd _) rfl cf_X2_hasJudge wq773 wq37 wn771 (c_X2_hasJudgeJ l D g T h0 s_2 hW.2.1 d hd i2_2 ri2_2 q2_0) ⟨rfl, rfl, ⟨by decide, by decide⟩, ⟨by decide, by decide⟩⟩ rfl rfl (Nat.le_of_ble_eq_true rfl) dX0_judgesStep_9) hW (fun x2 s3 H locs rx2 hp4 hW => ?_)
      obtain ⟨es3, hp4⟩ := hp4
      subst es3
      have ghp4 := hp4
      have H9 := ghp4
      have A9 : x2 = 0 → s_2 (d + 1) i2_2 = -1 := fun h => by omega
      refine x_if_ne (tgt := 18) hx hb rx2 dX0_judgesStep_12 (by decide) (fun c5 => ?_) (fun c5 => ?_)
      · skip
        refine x_aload_n hx hb hl 1 rfl dX0_judgesStep_18 rfl ?_
        refine x_iload_n hx hb hl 2 rfl dX0_judgesStep_19 rfl ?_
        refine x_goi (x_runVN (As := [.int (xJ i2_2)]) hx hb hml hown hT hE hW hl.1 (Or.inl (by omega)) (so_day0 h0 g hd _) rfl cf_X2_takeStep wq777 wq38 wn775 (c_X2_takeStepJ l D g T h0 s_2 hW.2.1 d hd i2_2 ri2_2 n9 w9 (by omega) (by first | exact hw | exact hw.f (hF_2 _ (by omega)) (fun k hk => hF_2 k (by first | omega | (unfold xDay at hd; omega)))) q2_0) ⟨rfl, rfl, ⟨by decide, by decide⟩, ⟨by decide, by decide⟩⟩ rfl rfl (Nat.le_of_ble_eq_true rfl) dX0_judgesStep_20) hW (fun x6 s7 H locs rx6 hp8 hW => ?_)
        obtain ⟨fs7, hp8⟩ := hp8
        have hF9 := hF_2.call fs7 (fun k h => by omega)
        have q10 : s7 1 1 = s0 1 1 := (congrFun (fs7 _ (by omega)) _).trans q2_1
        have q11 : s7 d 7 = s0 d 7 := (congrFun (fs7 _ (by omega)) _).trans q2_2
        have ghp8 := hp8.2
        have H20 := ghp8
        have A20 : s_2 (d + 1) i2_2 ≠ -1 := by omega
        have J20 : s7 (d + 1) = s_2 (d + 1) := fs7 (d + 1) (by omega)
        have B20 : x6 = 4 → zt (s7 (d + 1)) (s7 (d + 5)) = zjk K9 n9 w9 i2_2 (zt (s_2 (d + 1)) (s_2 (d + 5))) := fun h => by
          rcases H20 with g | g
          · exact zjk_c (by omega) (by rw [J20]; exact zxud_e (znw_no (Or.inr g.1))) (by rw [g.2.2]; exact zxud_e (znc_no (Or.inr g.1)))
          · exact zjk_c (by omega) (by rw [J20]; exact zxud_e (znw_st (Or.inl (by omega)))) (by rw [g.2.2.2, znc_s A20 g.1])
        have G20 : x6 ≠ 4 → _ := fun h => H20.resolve_left (fun q => h q.2.1)
        refine lv_istore_n (lv' := [(3, .int (xJ x6)), (0, .ref (h0 + 128)), (1, .ref (h0 + d)), (2, .int (xJ i2_2))]) hx hb dX0_judgesStep_23 rfl hl (by decide) rfl (fun ls hl => ?_)
        refine x_iload_n hx hb hl 0 rfl dX0_judgesStep_24 rfl ?_
        refine x_iconst hx hb dX0_judgesStep_25 ?_
        refine x_icmp_ne (tgt := 32) hx hb rx6 (by decide) dX0_judgesStep_26 (by decide) (fun c12 => ?_) (fun c12 => ?_)
        · skip
          refine x_aload_n hx hb hl 2 rfl dX0_judgesStep_32 rfl ?_
          refine x_getN (j := 0) (v := .ref (h0 + (d + 1))) hx hb hown hT hE hW cls_X2 (Or.inl (by omega)) (so_day0 h0 g hd _) (by decide) rfl wn384 dX0_judgesStep_33 ?_
          refine x_iload_n hx hb hl 3 rfl dX0_judgesStep_36 rfl ?_
          refine x_iald hx hb hE hW (Or.inl (by omega)) (sa_day1 h0 g hd _) (by omega) (by decide) dX0_judgesStep_37 ?_
          refine x_rd hW (fun x13 ex13 rx13 => ?_)
          have g20 := G20 (by omega)
          have V37 : x13 = s_2 (d + 1) i2_2 := by rw [ex13, J20]
          have o37 := zok_at (j := i2_2) ok2 (by omega)
          refine x_iconst hx hb dX0_judgesStep_38 ?_
          refine x_iload_n hx hb hl 0 rfl dX0_judgesStep_39 rfl ?_
          refine x_imul hx hb dX0_judgesStep_40 ?_
          refine x_goi (x_runSN (As := [.int (xJ x13), .int (xJ (2 * x6))]) hx hb hml hown hT hE hW hl.1 cf_X6_beside wq784 wn783 (c_X6_besideJ l D g T h0 s7 hW.2.1 x13 rx13 (2 * x6) (by omega)) ⟨rfl, rfl, ⟨by decide, by decide⟩, ⟨by decide, by decide⟩⟩ rfl rfl (Nat.le_of_ble_eq_true rfl) dX0_judgesStep_41) hW (fun x14 s15 H locs rx14 hp16 hW => ?_)
          obtain ⟨es15, hp16⟩ := hp16
          subst es15
          have ghp16 := hp16
          have H41 := ghp16
          obtain ⟨t9, et9⟩ : ∃ t, t = zbe (s_2 (d + 1) i2_2) (w9 i2_2 (s_2 (d + 5) i2_2)) := ⟨_, rfl⟩
          have T41 : x14 = t9 := by
            have e := (H41.resolve_right (fun q => q.1 (by omega))).2
            rw [V37, g20.2.1] at e
            rw [et9]; exact e
          have R41 := zbe_r (s_2 (d + 1) i2_2) (w9 i2_2 (s_2 (d + 5) i2_2))
          rw [← et9] at R41
          have S41 : s7 (d + 5) = xud (s_2 (d + 5)) i2_2 (znc (s_2 (d + 1) i2_2) (s_2 (d + 5) i2_2) (n9 i2_2)) := by rw [g20.2.2.2, znc_s A20 g20.1]
          have K41 : t9 = -1 ∨ s7 4 t9 = K9 t9 := R41.elim Or.inl (fun q => Or.inr (by rw [hF9 4 (by first | decide | omega)]; exact hK t9 q.1 q.2.1))
          refine lv_istore (lv' := [(4, .int (xJ x14)), (3, .int (xJ x6)), (0, .ref (h0 + 128)), (1, .ref (h0 + d)), (2, .int (xJ i2_2))]) hx hb dX0_judgesStep_44 hl (by decide) rfl (fun ls hl => ?_)
          refine x_aload_n hx hb hl 2 rfl dX0_judgesStep_46 rfl ?_
          refine x_get (j := 0) (v := .ref (h0 + 3)) hx hb hown hT hE hW cls_X0 (Or.inl (by decide)) (so_128 h0 g _) (by decide) rfl wq351 dX0_judgesStep_47 ?_
          refine x_iload hx hb hl 0 rfl dX0_judgesStep_50 ?_
          refine x_goi (x_runVN (As := [.int (xJ x14)]) hx hb hml hown hT hE hW hl.1 (Or.inl (by decide)) (so_3 h0 g _) rfl cf_X6_isOpen wq615 wq9 wn790 (c_X6_isOpenM l D g T h0 s7 hW.2.1 x14 rx14 hp8.1.1) ⟨rfl, rfl, ⟨by decide, by decide⟩, ⟨by decide, by decide⟩⟩ rfl rfl (Nat.le_of_ble_eq_true rfl) dX0_judgesStep_52) hW (fun x17 s18 H locs rx17 hp19 hW => ?_)
          obtain ⟨es18, hp19⟩ := hp19
          subst es18
          have ghp19 := hp19
          have H52 := ghp19
          rw [T41] at H52
          refine x_if_eq (tgt := 79) hx hb rx17 dX0_judgesStep_55 (by decide) (fun c20 => ?_) (fun c20 => ?_)
          · skip
            refine x_iinc (lv' := [(2, .int (xJ (i2_2 + 1))), (4, .int (xJ x14)), (3, .int (xJ x6)), (0, .ref (h0 + 128)), (1, .ref (h0 + d))]) hx hb hl 4 rfl dX0_judgesStep_79 (by decide) rfl (fun ls hl => ?_)
            refine lv_goto (tgt := 2) hx hb dX0_judgesStep_82 (by decide) ?_
            exact ih2 (i2_2 + 1) s7 H locs ls (by omega) hF9 hp8.1.1 q10 q11 (by omega) ((by
                    rw [zjp_s (by omega), ← v2_1]
                    first
                      | exact zjk_c (by omega) (zxud_e (znw_no (Or.inl A9))) (zxud_e (znc_no (Or.inl A9)))
                      | exact B20 (by omega)
                      | exact zjk_c (by omega) (by rw [J20]; exact zxud_e (znw_st (by rw [← et9]; omega))) S41
                      | exact zjk_c (by omega) (by rw [E78, xU_xud, J20, T41]; exact congrArg (xud (s_2 (d + 1)) i2_2) (((znw_go A20 g20.1 (by rw [← et9]; omega)).trans et9.symm).symm)) (by rw [E78, xU_k _ _ _ (by first | decide | omega)]; exact S41))) (by have hm := hm_2 (); omega) hW (lv_sub hl [3, 4, 0] rfl)
          refine x_aload_n hx hb hl 3 rfl dX0_judgesStep_58 rfl ?_
          refine x_getN (j := 0) (v := .ref (h0 + (d + 1))) hx hb hown hT hE hW cls_X2 (Or.inl (by omega)) (so_day0 h0 g hd _) (by decide) rfl wn384 dX0_judgesStep_59 ?_
          refine x_iconst hx hb dX0_judgesStep_62 ?_
          refine x_iload_n hx hb hl 4 rfl dX0_judgesStep_63 rfl ?_
          refine x_isub hx hb dX0_judgesStep_64 ?_
          refine x_iald hx hb hE hW (Or.inl (by omega)) (sa_day1 h0 g hd _) (by omega) (by decide) dX0_judgesStep_65 ?_
          refine x_rd hW (fun x21 ex21 rx21 => ?_)
          have V65 : x21 = s_2 (d + 1) (1 - i2_2) := by rw [ex21, J20]
          refine x_iload hx hb hl 0 rfl dX0_judgesStep_66 ?_
          refine x_icmp_eq (tgt := 79) hx hb rx21 rx14 dX0_judgesStep_68 (by decide) (fun c22 => ?_) (fun c22 => ?_)
          · skip
            refine x_iinc (lv' := [(2, .int (xJ (i2_2 + 1))), (4, .int (xJ x14)), (3, .int (xJ x6)), (0, .ref (h0 + 128)), (1, .ref (h0 + d))]) hx hb hl 4 rfl dX0_judgesStep_79 (by decide) rfl (fun ls hl => ?_)
            refine lv_goto (tgt := 2) hx hb dX0_judgesStep_82 (by decide) ?_
            exact ih2 (i2_2 + 1) s7 H locs ls (by omega) hF9 hp8.1.1 q10 q11 (by omega) ((by
                    rw [zjp_s (by omega), ← v2_1]
                    first
                      | exact zjk_c (by omega) (zxud_e (znw_no (Or.inl A9))) (zxud_e (znc_no (Or.inl A9)))
                      | exact B20 (by omega)
                      | exact zjk_c (by omega) (by rw [J20]; exact zxud_e (znw_st (by rw [← et9]; omega))) S41
                      | exact zjk_c (by omega) (by rw [E78, xU_xud, J20, T41]; exact congrArg (xud (s_2 (d + 1)) i2_2) (((znw_go A20 g20.1 (by rw [← et9]; omega)).trans et9.symm).symm)) (by rw [E78, xU_k _ _ _ (by first | decide | omega)]; exact S41))) (by have hm := hm_2 (); omega) hW (lv_sub hl [3, 4, 0] rfl)
          refine x_aload_n hx hb hl 3 rfl dX0_judgesStep_71 rfl ?_
          refine x_getN (j := 0) (v := .ref (h0 + (d + 1))) hx hb hown hT hE hW cls_X2 (Or.inl (by omega)) (so_day0 h0 g hd _) (by decide) rfl wn384 dX0_judgesStep_72 ?_
          refine x_iload_n hx hb hl 4 rfl dX0_judgesStep_75 rfl ?_
          refine x_iload hx hb hl 0 rfl dX0_judgesStep_76 ?_
          refine x_iast hx hb hE hW (by omega) (fun σ => sa_day1 h0 g hd σ) (by omega) (by decide) rx14 dX0_judgesStep_78 (fun H locs s23 es23 hW => ?_)
          have q24 : s23 1 1 = s0 1 1 := (show s23 1 1 = s7 1 1 from by rw [es23, xU_k _ _ _ (by first | decide | omega)]).trans q10
          have q25 : s23 d 7 = s0 d 7 := (show s23 d 7 = s7 d 7 from by rw [es23, xU_k _ _ _ (by first | decide | omega)]).trans q11
          have q26 : IC s23 := by rw [es23]; exact IC_o (nsC_d hd (by decide)) hp8.1.1
          have hF27 := hF9.put es23 (by omega)
          have E78 := es23
          refine x_iinc (lv' := [(2, .int (xJ (i2_2 + 1))), (4, .int (xJ x14)), (3, .int (xJ x6)), (0, .ref (h0 + 128)), (1, .ref (h0 + d))]) hx hb hl 4 rfl dX0_judgesStep_79 (by decide) rfl (fun ls hl => ?_)
          refine lv_goto (tgt := 2) hx hb dX0_judgesStep_82 (by decide) ?_
          exact ih2 (i2_2 + 1) s23 H locs ls (by omega) hF27 q26 q24 q25 (by omega) ((by
                    rw [zjp_s (by omega), ← v2_1]
                    first
                      | exact zjk_c (by omega) (zxud_e (znw_no (Or.inl A9))) (zxud_e (znc_no (Or.inl A9)))
                      | exact B20 (by omega)
                      | exact zjk_c (by omega) (by rw [J20]; exact zxud_e (znw_st (by rw [← et9]; omega))) S41
                      | exact zjk_c (by omega) (by rw [E78, xU_xud, J20, T41]; exact congrArg (xud (s_2 (d + 1)) i2_2) (((znw_go A20 g20.1 (by rw [← et9]; omega)).trans et9.symm).symm)) (by rw [E78, xU_k _ _ _ (by first | decide | omega)]; exact S41))) (by have hm := hm_2 (); omega) hW (lv_sub hl [3, 4, 0] rfl)
        refine lv_goto (tgt := 79) hx hb dX0_judgesStep_29 (by decide) ?_
        refine x_iinc (lv' := [(2, .int (xJ (i2_2 + 1))), (3, .int (xJ x6)), (0, .ref (h0 + 128)), (1, .ref (h0 + d))]) hx hb hl 3 rfl dX0_judgesStep_79 (by decide) rfl (fun ls hl => ?_)
        refine lv_goto (tgt := 2) hx hb dX0_judgesStep_82 (by decide) ?_
        exact ih2 (i2_2 + 1) s7 H locs ls (by omega) hF9 hp8.1.1 q10 q11 (by omega) ((by
                    rw [zjp_s (by omega), ← v2_1]
                    first
                      | exact zjk_c (by omega) (zxud_e (znw_no (Or.inl A9))) (zxud_e (znc_no (Or.inl A9)))
                      | exact B20 (by omega)
                      | exact zjk_c (by omega) (by rw [J20]; exact zxud_e (znw_st (by rw [← et9]; omega))) S41
                      | exact zjk_c (by omega) (by rw [E78, xU_xud, J20, T41]; exact congrArg (xud (s_2 (d + 1)) i2_2) (((znw_go A20 g20.1 (by rw [← et9]; omega)).trans et9.symm).symm)) (by rw [E78, xU_k _ _ _ (by first | decide | omega)]; exact S41))) (by have hm := hm_2 (); omega) hW (lv_sub hl [2, 3, 0] rfl)
      refine lv_goto (tgt := 79) hx hb dX0_judgesStep_15 (by decide) ?_
      have A9 := A9 (by omega)
      refine x_iinc (lv' := [(2, .int (xJ (i2_2 + 1))), (0, .ref (h0 + 128)), (1, .ref (h0 + d))]) hx hb hl 2 rfl dX0_judgesStep_79 (by decide) rfl (fun ls hl => ?_)
      refine lv_goto (tgt := 2) hx hb dX0_judgesStep_82 (by decide) ?_
      exact ih2 (i2_2 + 1) s_2 H locs ls (by omega) hF_2 q2_0 q2_1 q2_2 (by omega) ((by
                    rw [zjp_s (by omega), ← v2_1]
                    first
                      | exact zjk_c (by omega) (zxud_e (znw_no (Or.inl A9))) (zxud_e (znc_no (Or.inl A9)))
                      | exact B20 (by omega)
                      | exact zjk_c (by omega) (by rw [J20]; exact zxud_e (znw_st (by rw [← et9]; omega))) S41
                      | exact zjk_c (by omega) (by rw [E78, xU_xud, J20, T41]; exact congrArg (xud (s_2 (d + 1)) i2_2) (((znw_go A20 g20.1 (by rw [← et9]; omega)).trans et9.symm).symm)) (by rw [E78, xU_k _ _ _ (by first | decide | omega)]; exact S41))) (by have hm := hm_2 (); omega) hW (lv_sub hl [1, 2, 0] rfl)
  exact L2 ((2 - 0 : Int).toNat + 1) 0 s0 H locs ls (by decide) hF p0 k1_1 kd_7 (by omega) ((zjp_0 rfl).symm) (Nat.lt_succ_self _) hW (lv_sub hl [1, 2, 0] rfl)
