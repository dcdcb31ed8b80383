theorem xlt_v : ∀ j : Int, 0 ≤ j → j < 7 → (j = 0 ∧ xlt j.toNat = 116) ∨ (j = 1 ∧ xlt j.toNat = 104) ∨ (j = 2 ∧ xlt j.toNat = 106) ∨ (j = 3 ∧ xlt j.toNat = 102) ∨ (j = 4 ∧ xlt j.toNat = 119) ∨ (j = 5 ∧ xlt j.toNat = 98) ∨ (j = 6 ∧ xlt j.toNat = 115) := fun j h1 h2 => by
  rcases (by omega : j = 0 ∨ j = 1 ∨ j = 2 ∨ j = 3 ∨ j = 4 ∨ j = 5 ∨ j = 6) with rfl | rfl | rfl | rfl | rfl | rfl | rfl <;> decide
set_option maxHeartbeats 4000000 in
set_option maxRecDepth 100000 in
theorem c_X8_isDigitK (l : Launch) (D : va_G) (g : xG) (T : Nat × Nat × Nat) (h0 : Nat) (s0 : xS) (hσ : xRR s0) (f9 : Int → Int) (n9 : Int) (hf : s0 2 = f9 ∧ s0 1 2 = n9) (hat : 0 ≤ s0 1 3 ∧ s0 1 3 ≤ 260 ∧ n9 ≤ 260) (p0 : IC s0) : Met l yX8_isDigit (xws yX8_isDigit cX8_isDigit 1 (some .boolean)) { frames := 1, cells := 0, slots := 0, locals := 20 } (xP [.ref (h0 + 1)] D g T h0 s0) (xQi D g h0 (fun r τ => s0 = τ ∧ ((r = 1 ∧ zdg (zch f9 n9 (s0 1 3))) ∨ (r = 0 ∧ ¬ zdg (zch f9 n9 (s0 1 3)))))) 0 0 (xA h0) := by
  refine x_met hσ (by decide) (Nat.le_of_ble_eq_true rfl) ?_
  intro p e s m args below meth c hx hb hr hml hown hT hlk hnm hE hW ls hl
  have hl : lv_has ls 1 [(0, .ref (h0 + 1))] := hl
  obtain ⟨Q, eQ⟩ : ∃ Q, Q = MQ below (xQi D g h0 (fun r τ => s0 = τ ∧ ((r = 1 ∧ zdg (zch f9 n9 (s0 1 3))) ∨ (r = 0 ∧ ¬ zdg (zch f9 n9 (s0 1 3)))))) args s 0 0 (xA h0) := ⟨_, rfl⟩
  rw [← eQ]
  generalize hHe : ([] : List Loc) = locs at hW ⊢
  obtain ⟨H, eH⟩ : ∃ H, H = s.heap := ⟨_, rfl⟩
  rw [← eH] at hW ⊢
  have k1_1 : s0 1 1 = s0 1 1 := rfl
  refine x_aload_n hx hb hl 0 rfl dX8_isDigit_0 rfl ?_
  refine x_goi (x_runV (As := []) hx hb hml hown hT hE hW hl.1 (Or.inl (by decide)) (so_1 h0 g _) rfl cf_X8_sign wq581 wq4 wq600 (c_X8_sign l D g T h0 s0 hW.2.1 p0) ⟨rfl, rfl, ⟨by decide, by decide⟩, ⟨by decide, by decide⟩⟩ rfl rfl (Nat.le_of_ble_eq_true rfl) dX8_isDigit_1) hW (fun x1 s2 H locs rx1 hp3 hW => ?_)
  obtain ⟨es2, hp3⟩ := hp3
  subst es2
  have ghp3 := hp3
  have C1 : x1 = zch f9 n9 (s0 1 3) := zch_i (by have q8 := congrFun (show s0 2 = f9 from hf.1) (s0 1 3); have q9 := hf.2; omega)
  refine x_bipush hx hb dX8_isDigit_4 (by decide) ?_
  refine x_icmp_lt (tgt := 22) hx hb rx1 (by decide) dX8_isDigit_6 (by decide) (fun c4 => ?_) (fun c4 => ?_)
  · skip
    refine x_iconst hx hb dX8_isDigit_22 ?_
    rw [eQ]
    exact x_zret hx hb hr hlk hW (by omega) ⟨rfl, by unfold zdg; omega⟩ dX8_isDigit_23
  refine x_aload_n hx hb hl 0 rfl dX8_isDigit_9 rfl ?_
  refine x_goi (x_runV (As := []) hx hb hml hown hT hE hW hl.1 (Or.inl (by decide)) (so_1 h0 g _) rfl cf_X8_sign wq581 wq4 wq600 (c_X8_sign l D g T h0 s0 hW.2.1 p0) ⟨rfl, rfl, ⟨by decide, by decide⟩, ⟨by decide, by decide⟩⟩ rfl rfl (Nat.le_of_ble_eq_true rfl) dX8_isDigit_10) hW (fun x5 s6 H locs rx5 hp7 hW => ?_)
  obtain ⟨es6, hp7⟩ := hp7
  subst es6
  have ghp7 := hp7
  have C10 : x5 = zch f9 n9 (s0 1 3) := zch_i (by have q8 := congrFun (show s0 2 = f9 from hf.1) (s0 1 3); have q9 := hf.2; omega)
  refine x_bipush hx hb dX8_isDigit_13 (by decide) ?_
  refine x_icmp_gt (tgt := 22) hx hb rx5 (by decide) dX8_isDigit_15 (by decide) (fun c8 => ?_) (fun c8 => ?_)
  · skip
    refine x_iconst hx hb dX8_isDigit_22 ?_
    rw [eQ]
    exact x_zret hx hb hr hlk hW (by omega) ⟨rfl, by unfold zdg; omega⟩ dX8_isDigit_23
  refine x_iconst hx hb dX8_isDigit_18 ?_
  refine lv_goto (tgt := 23) hx hb dX8_isDigit_19 (by decide) ?_
  rw [eQ]
  exact x_zret hx hb hr hlk hW (by omega) ⟨rfl, by unfold zdg; omega⟩ dX8_isDigit_23
set_option maxHeartbeats 4000000 in
set_option maxRecDepth 100000 in
theorem c_X4_putK (l : Launch) (D : va_G) (g : xG) (T : Nat × Nat × Nat) (h0 : Nat) (s0 : xS) (hσ : xRR s0) (a : Int) (ra : xR a) (b : Int) (rb : xR b) (p0 : IC s0) : Met l yX4_put (xws yX4_put cX4_put 4 (some .int)) { frames := 0, cells := 0, slots := 0, locals := 0 } (xP [.ref (h0 + 118), .int (xJ a), .int (xJ b)] D g T h0 s0) (xQi D g h0 (fun r τ => xFr (fun k => k = 118 ∨ k = 119 ∨ k = 120) s0 τ ∧ (((IC τ) ∧ True) ∧ (s0 118 2 < 300 → r = s0 118 2 ∧ τ 118 2 = s0 118 2 + 1 ∧ τ 119 = xud (s0 119) (s0 118 2) a ∧ τ 120 = xud (s0 120) (s0 118 2) b)))) 0 0 (xA h0) := by
  refine x_met hσ (by decide) (Nat.le_of_ble_eq_true rfl) ?_
  intro p e s m args below meth c hx hb hr hml hown hT hlk hnm hE hW ls hl
  have hl : lv_has ls 4 [(0, .ref (h0 + 118)), (1, .int (xJ a)), (2, .int (xJ b))] := hl
  obtain ⟨Q, eQ⟩ : ∃ Q, Q = MQ below (xQi D g h0 (fun r τ => xFr (fun k => k = 118 ∨ k = 119 ∨ k = 120) s0 τ ∧ (((IC τ) ∧ True) ∧ (s0 118 2 < 300 → r = s0 118 2 ∧ τ 118 2 = s0 118 2 + 1 ∧ τ 119 = xud (s0 119) (s0 118 2) a ∧ τ 120 = xud (s0 120) (s0 118 2) b)))) args s 0 0 (xA h0) := ⟨_, rfl⟩
  rw [← eQ]
  generalize hHe : ([] : List Loc) = locs at hW ⊢
  obtain ⟨H, eH⟩ : ∃ H, H = s.heap := ⟨_, rfl⟩
  rw [← eH] at hW ⊢
  have hF : xFr (fun k => k = 118 ∨ k = 119 ∨ k = 120) s0 s0 := xFr.rf
  refine x_aload_n hx hb hl 0 rfl dX4_put_0 rfl ?_
  refine x_get (j := 2) (v := .int (xJ (s0 118 2))) hx hb hown hT hE hW cls_X4 (Or.inl (by decide)) (so_118 h0 g _) (by decide) rfl wq253 dX4_put_1 ?_
  refine x_rd hW (fun x1 ex1 rx1 => ?_)
  have bx1 : 0 ≤ x1 ∧ x1 ≤ 300 := by rw [ex1]; exact (IC.l2 p0).1
  have q2 : s0 118 2 = x1 := ex1.symm
  refine lv_istore_n (lv' := [(3, .int (xJ x1)), (0, .ref (h0 + 118)), (1, .int (xJ a)), (2, .int (xJ b))]) hx hb dX4_put_4 rfl hl (by decide) rfl (fun ls hl => ?_)
  refine x_iload_n hx hb hl 0 rfl dX4_put_5 rfl ?_
  refine x_if_lt (tgt := 40) hx hb rx1 dX4_put_6 (by decide) (fun c3 => ?_) (fun c3 => ?_)
  · skip
    refine x_iload_n hx hb hl 0 rfl dX4_put_40 rfl ?_
    rw [eQ]
    exact x_iret hx hb hr hlk hW rx1 ⟨hF, ⟨p0, trivial⟩, by first | exact fun _ => ⟨by omega, by omega, by rw [E37, xU_k _ _ _ (by omega), E29, xU_k _ _ _ (by omega), E22, xU_xud, show x1 = s0 118 2 from by omega], by rw [E37, xU_k _ _ _ (by omega), E29, xU_xud, E22, xU_k _ _ _ (by omega), show x1 = s0 118 2 from by omega]⟩ | exact fun h => absurd h (by omega)⟩ dX4_put_41
  refine x_iload_n hx hb hl 0 rfl dX4_put_9 rfl ?_
  refine x_sipush hx hb dX4_put_10 (by decide) ?_
  refine x_icmp_ge (tgt := 40) hx hb rx1 (by decide) dX4_put_13 (by decide) (fun c4 => ?_) (fun c4 => ?_)
  · skip
    refine x_iload_n hx hb hl 0 rfl dX4_put_40 rfl ?_
    rw [eQ]
    exact x_iret hx hb hr hlk hW rx1 ⟨hF, ⟨p0, trivial⟩, by first | exact fun _ => ⟨by omega, by omega, by rw [E37, xU_k _ _ _ (by omega), E29, xU_k _ _ _ (by omega), E22, xU_xud, show x1 = s0 118 2 from by omega], by rw [E37, xU_k _ _ _ (by omega), E29, xU_xud, E22, xU_k _ _ _ (by omega), show x1 = s0 118 2 from by omega]⟩ | exact fun h => absurd h (by omega)⟩ dX4_put_41
  refine x_aload_n hx hb hl 1 rfl dX4_put_16 rfl ?_
  refine x_get (j := 0) (v := .ref (h0 + 119)) hx hb hown hT hE hW cls_X4 (Or.inl (by decide)) (so_118 h0 g _) (by decide) rfl wq251 dX4_put_17 ?_
  refine x_iload_n hx hb hl 0 rfl dX4_put_20 rfl ?_
  refine x_iload_n hx hb hl 2 rfl dX4_put_21 rfl ?_
  refine x_iast hx hb hE hW (by decide) (fun σ => sa_119 h0 g σ) (by omega) (by decide) ra dX4_put_22 (fun H locs s5 es5 hW => ?_)
  have q6 : IC s5 := by rw [es5]; exact IC_o (by decide) p0
  have q7 : s5 118 2 = x1 := (show s5 118 2 = s0 118 2 from by rw [es5, xU_k _ _ _ (by omega)]).trans q2
  have hF8 := hF.put es5 (by omega)
  have E22 := es5
  refine x_aload_n hx hb hl 1 rfl dX4_put_23 rfl ?_
  refine x_get (j := 1) (v := .ref (h0 + 120)) hx hb hown hT hE hW cls_X4 (Or.inl (by decide)) (so_118 h0 g _) (by decide) rfl wq252 dX4_put_24 ?_
  refine x_iload_n hx hb hl 0 rfl dX4_put_27 rfl ?_
  refine x_iload_n hx hb hl 3 rfl dX4_put_28 rfl ?_
  refine x_iast hx hb hE hW (by decide) (fun σ => sa_120 h0 g σ) (by omega) (by decide) rb dX4_put_29 (fun H locs s9 es9 hW => ?_)
  have q10 : IC s9 := by rw [es9]; exact IC_o (by decide) q6
  have q11 : s9 118 2 = x1 := (show s9 118 2 = s5 118 2 from by rw [es9, xU_k _ _ _ (by omega)]).trans q7
  have hF12 := hF8.put es9 (by omega)
  have E29 := es9
  refine x_aload_n hx hb hl 1 rfl dX4_put_30 rfl ?_
  refine lv_dup hx hb dX4_put_31 rfl ?_
  refine x_get (j := 2) (v := .int (xJ (s9 118 2))) hx hb hown hT hE hW cls_X4 (Or.inl (by decide)) (so_118 h0 g _) (by decide) rfl wq253 dX4_put_32 ?_
  refine x_rd hW (fun x13 ex13 rx13 => ?_)
  have bx13 : 0 ≤ x13 ∧ x13 ≤ 300 := by rw [ex13]; exact (IC.l2 q10).1
  have fx13 : x13 = x1 := ex13.trans q11
  refine x_iconst hx hb dX4_put_35 ?_
  refine x_iadd hx hb dX4_put_36 ?_
  refine x_put (j := 2) hx hb hown hT hE hW cls_X4 (by decide) (fun σ => so_118 h0 g σ) (by decide) (st_X4_2 h0 s9 118 (x13 + 1)) (ln_X4_2 h0 _ _) wq253 rfl rfl rfl (by omega) dX4_put_37 (fun H locs s14 es14 hW => ?_)
  have q15 : IC s14 := by rw [es14]; exact IC_L_118 q10 (by omega)
  have q16 : s14 118 2 = (x13 + 1) := by rw [es14, xU_s]
  have hF17 := hF12.put es14 (by omega)
  have E37 := es14
  refine x_iload_n hx hb hl 0 rfl dX4_put_40 rfl ?_
  rw [eQ]
  exact x_iret hx hb hr hlk hW rx1 ⟨hF17, ⟨q15, trivial⟩, by first | exact fun _ => ⟨by omega, by omega, by rw [E37, xU_k _ _ _ (by omega), E29, xU_k _ _ _ (by omega), E22, xU_xud, show x1 = s0 118 2 from by omega], by rw [E37, xU_k _ _ _ (by omega), E29, xU_xud, E22, xU_k _ _ _ (by omega), show x1 = s0 118 2 from by omega]⟩ | exact fun h => absurd h (by omega)⟩ dX4_put_41
set_option maxHeartbeats 4000000 in
set_option maxRecDepth 100000 in
theorem c_X4_landSkipK (l : Launch) (D : va_G) (g : xG) (T : Nat × Nat × Nat) (h0 : Nat) (s0 : xS) (hσ : xRR s0) (a : Int) (ra : xR a) (ha : 0 ≤ a ∧ a < 300) (p0 : IC s0) : Met l yX4_landSkip (xws yX4_landSkip cX4_landSkip 2 none) { frames := 0, cells := 0, slots := 0, locals := 0 } (xP [.ref (h0 + 118), .int (xJ a)] D g T h0 s0) (xQv D g h0 (fun τ => xFr (fun k => k = 120) s0 τ ∧ (((IC τ) ∧ True) ∧ (τ 120 = xud (s0 120) a (s0 118 2))))) 0 0 (xA h0) := by
  refine x_met hσ (by decide) (Nat.le_of_ble_eq_true rfl) ?_
  intro p e s m args below meth c hx hb hr hml hown hT hlk hnm hE hW ls hl
  have hl : lv_has ls 2 [(0, .ref (h0 + 118)), (1, .int (xJ a))] := hl
  obtain ⟨Q, eQ⟩ : ∃ Q, Q = MQ below (xQv D g h0 (fun τ => xFr (fun k => k = 120) s0 τ ∧ (((IC τ) ∧ True) ∧ (τ 120 = xud (s0 120) a (s0 118 2))))) args s 0 0 (xA h0) := ⟨_, rfl⟩
  rw [← eQ]
  generalize hHe : ([] : List Loc) = locs at hW ⊢
  obtain ⟨H, eH⟩ : ∃ H, H = s.heap := ⟨_, rfl⟩
  rw [← eH] at hW ⊢
  have hF : xFr (fun k => k = 120) s0 s0 := xFr.rf
  refine x_iload_n hx hb hl 1 rfl dX4_landSkip_0 rfl ?_
  refine x_if_lt (tgt := 21) hx hb ra dX4_landSkip_1 (by decide) (fun c1 => False.elim (by omega)) (fun c1 => ?_)
  refine x_iload_n hx hb hl 1 rfl dX4_landSkip_4 rfl ?_
  refine x_sipush hx hb dX4_landSkip_5 (by decide) ?_
  refine x_icmp_ge (tgt := 21) hx hb ra (by decide) dX4_landSkip_8 (by decide) (fun c2 => False.elim (by omega)) (fun c2 => ?_)
  refine x_aload_n hx hb hl 0 rfl dX4_landSkip_11 rfl ?_
  refine x_get (j := 1) (v := .ref (h0 + 120)) hx hb hown hT hE hW cls_X4 (Or.inl (by decide)) (so_118 h0 g _) (by decide) rfl wq252 dX4_landSkip_12 ?_
  refine x_iload_n hx hb hl 1 rfl dX4_landSkip_15 rfl ?_
  refine x_aload_n hx hb hl 0 rfl dX4_landSkip_16 rfl ?_
  refine x_get (j := 2) (v := .int (xJ (s0 118 2))) hx hb hown hT hE hW cls_X4 (Or.inl (by decide)) (so_118 h0 g _) (by decide) rfl wq253 dX4_landSkip_17 ?_
  refine x_rd hW (fun x3 ex3 rx3 => ?_)
  have bx3 : 0 ≤ x3 ∧ x3 ≤ 300 := by rw [ex3]; exact (IC.l2 p0).1
  have V17 : x3 = s0 118 2 := ex3
  refine x_iast hx hb hE hW (by decide) (fun σ => sa_120 h0 g σ) (by omega) (by decide) rx3 dX4_landSkip_20 (fun H locs s4 es4 hW => ?_)
  have q5 : IC s4 := by rw [es4]; exact IC_o (by decide) p0
  have hF6 := hF.put es4 (by omega)
  have E20 := es4
  rw [eQ]
  exact x_vret hx hb hr hlk hW ⟨hF6, ⟨q5, trivial⟩, by rw [E20, xU_xud, V17]⟩ dX4_landSkip_21
set_option maxHeartbeats 4000000 in
set_option maxRecDepth 100000 in
theorem c_X4_placeOfLetterK (l : Launch) (D : va_G) (g : xG) (T : Nat × Nat × Nat) (h0 : Nat) (s0 : xS) (hσ : xRR s0) (x : Int) (rx : xR x) : Met l yX4_placeOfLetter (xws yX4_placeOfLetter cX4_placeOfLetter 2 (some .int)) { frames := 0, cells := 0, slots := 0, locals := 0 } (xP [.int (xJ x)] D g T h0 s0) (xQi D g h0 (fun r τ => s0 = τ ∧ ((x = 116 ∧ r = 0) ∨ (x = 104 ∧ r = 1) ∨ (x = 106 ∧ r = 2) ∨ (x = 102 ∧ r = 3) ∨ (x = 119 ∧ r = 4) ∨ (x = 98 ∧ r = 5) ∨ (x = 115 ∧ r = 6) ∨ (x ≠ 116 ∧ x ≠ 104 ∧ x ≠ 106 ∧ x ≠ 102 ∧ x ≠ 119 ∧ x ≠ 98 ∧ x ≠ 115 ∧ r = -1)))) 0 0 (xA h0) := by
  refine x_met hσ (by decide) (Nat.le_of_ble_eq_true rfl) ?_
  intro p e s m args below meth c hx hb hr hml hown hT hlk hnm hE hW ls hl
  have hl : lv_has ls 2 [(0, .int (xJ x))] := hl
  obtain ⟨Q, eQ⟩ : ∃ Q, Q = MQ below (xQi D g h0 (fun r τ => s0 = τ ∧ ((x = 116 ∧ r = 0) ∨ (x = 104 ∧ r = 1) ∨ (x = 106 ∧ r = 2) ∨ (x = 102 ∧ r = 3) ∨ (x = 119 ∧ r = 4) ∨ (x = 98 ∧ r = 5) ∨ (x = 115 ∧ r = 6) ∨ (x ≠ 116 ∧ x ≠ 104 ∧ x ≠ 106 ∧ x ≠ 102 ∧ x ≠ 119 ∧ x ≠ 98 ∧ x ≠ 115 ∧ r = -1)))) args s 0 0 (xA h0) := ⟨_, rfl⟩
  rw [← eQ]
  generalize hHe : ([] : List Loc) = locs at hW ⊢
  obtain ⟨H, eH⟩ : ∃ H, H = s.heap := ⟨_, rfl⟩
  rw [← eH] at hW ⊢
  refine x_iconst hx hb dX4_placeOfLetter_0 ?_
  refine lv_istore_n (lv' := [(1, .int (xJ 0)), (0, .int (xJ x))]) hx hb dX4_placeOfLetter_1 rfl hl (by decide) rfl (fun ls hl => ?_)
  have L2 : ∀ (fu : Nat) (i1_2 : Int) (ls : Array Slot), (xR i1_2) → (0 ≤ i1_2 ∧ i1_2 ≤ 7) → ((0 < i1_2 → x ≠ 116) ∧ (1 < i1_2 → x ≠ 104) ∧ (2 < i1_2 → x ≠ 106) ∧ (3 < i1_2 → x ≠ 102) ∧ (4 < i1_2 → x ≠ 119) ∧ (5 < i1_2 → x ≠ 98) ∧ (6 < i1_2 → x ≠ 115)) → (7 - i1_2).toNat < fu → lv_has ls 2 [(0, .int (xJ x)), (1, .int (xJ i1_2))] → W p l e { frames := 0, cells := 0, slots := 0, locals := 0 } s m args below meth c H locs 0 0 Q (F0 m 2 ls []) := by
    intro fu
    induction fu with
    | zero => intro i1_2 ls ri1_2 v2_0 v2_1 hm; exact absurd hm (Nat.not_lt_zero _)
    | succ fu ih2 =>
      intro i1_2 ls ri1_2 v2_0 v2_1 hm  hl
      refine x_iload_n hx hb hl 1 rfl dX4_placeOfLetter_2 rfl ?_
      refine va_gets hx hb hE.2.2.2.2.1 hW.2.2 hown (hT _ wq249) (fun _ h9 => h9) dX4_placeOfLetter_3 ?_
      refine va_tlen (v := xJ 7) hx hb hE.2.2.2.2.2 hW.2.2 rfl dX4_placeOfLetter_6 ?_
      refine x_icmp_ge (tgt := 27) hx hb ri1_2 (by decide) dX4_placeOfLetter_7 (by decide) (fun c1 => ?_) (fun c1 => ?_)
      · skip
        refine x_iconst hx hb dX4_placeOfLetter_27 ?_
        rw [eQ]
        exact x_iret hx hb hr hlk hW (by decide) ⟨rfl, by omega⟩ dX4_placeOfLetter_28
      refine va_gets hx hb hE.2.2.2.2.1 hW.2.2 hown (hT _ wq249) (fun _ h9 => h9) dX4_placeOfLetter_10 ?_
      refine x_iload_n hx hb hl 1 rfl dX4_placeOfLetter_13 rfl ?_
      refine x_lt hx hb hE hW (by omega) dX4_placeOfLetter_14 ?_
      refine x_nm (fun x2 ex2 => ?_)
      have rx2 : -1 ≤ x2 ∧ x2 ≤ 119 := by rw [ex2]; exact xlt_in _
      have lx2 : 98 ≤ x2 := by rw [ex2]; exact xlt_lo _ (by omega)
      have L14 := xlt_v i1_2 (by omega) (by omega)
      refine x_iload_n hx hb hl 0 rfl dX4_placeOfLetter_15 rfl ?_
      refine x_icmp_ne (tgt := 21) hx hb (by omega) rx dX4_placeOfLetter_16 (by decide) (fun c3 => ?_) (fun c3 => ?_)
      · skip
        refine x_iinc (lv' := [(1, .int (xJ (i1_2 + 1))), (0, .int (xJ x))]) hx hb hl 1 rfl dX4_placeOfLetter_21 (by decide) rfl (fun ls hl => ?_)
        refine lv_goto (tgt := 2) hx hb dX4_placeOfLetter_24 (by decide) ?_
        exact ih2 (i1_2 + 1) ls (by omega) (by omega) (by omega) (by omega)  (lv_sub hl [1, 0] rfl)
      refine x_iload_n hx hb hl 1 rfl dX4_placeOfLetter_19 rfl ?_
      rw [eQ]
      exact x_iret hx hb hr hlk hW ri1_2 ⟨rfl, by omega⟩ dX4_placeOfLetter_20
  exact L2 ((7 - 0 : Int).toNat + 1) 0 ls (by decide) (by omega) (by omega) (Nat.lt_succ_self _)  (lv_sub hl [1, 0] rfl)
set_option maxHeartbeats 4000000 in
set_option maxRecDepth 100000 in
theorem c_X5_isKindK (l : Launch) (D : va_G) (g : xG) (T : Nat × Nat × Nat) (h0 : Nat) (s0 : xS) (hσ : xRR s0) (x : Int) (rx : xR x) : Met l yX5_isKind (xws yX5_isKind cX5_isKind 1 (some .boolean)) { frames := 0, cells := 0, slots := 0, locals := 0 } (xP [.int (xJ x)] D g T h0 s0) (xQi D g h0 (fun r τ => s0 = τ ∧ ((r = 1 ∧ (x = 97 ∨ x = 108 ∨ x = 99 ∨ x = 110 ∨ x = 118 ∨ x = 111)) ∨ (r = 0 ∧ ¬ (x = 97 ∨ x = 108 ∨ x = 99 ∨ x = 110 ∨ x = 118 ∨ x = 111))))) 0 0 (xA h0) := by
  refine x_met hσ (by decide) (Nat.le_of_ble_eq_true rfl) ?_
  intro p e s m args below meth c hx hb hr hml hown hT hlk hnm hE hW ls hl
  have hl : lv_has ls 1 [(0, .int (xJ x))] := hl
  obtain ⟨Q, eQ⟩ : ∃ Q, Q = MQ below (xQi D g h0 (fun r τ => s0 = τ ∧ ((r = 1 ∧ (x = 97 ∨ x = 108 ∨ x = 99 ∨ x = 110 ∨ x = 118 ∨ x = 111)) ∨ (r = 0 ∧ ¬ (x = 97 ∨ x = 108 ∨ x = 99 ∨ x = 110 ∨ x = 118 ∨ x = 111))))) args s 0 0 (xA h0) := ⟨_, rfl⟩
  rw [← eQ]
  generalize hHe : ([] : List Loc) = locs at hW ⊢
  obtain ⟨H, eH⟩ : ∃ H, H = s.heap := ⟨_, rfl⟩
  rw [← eH] at hW ⊢
  refine x_iload_n hx hb hl 0 rfl dX5_isKind_0 rfl ?_
  refine x_bipush hx hb dX5_isKind_1 (by decide) ?_
  refine x_icmp_eq (tgt := 36) hx hb rx (by decide) dX5_isKind_3 (by decide) (fun c1 => ?_) (fun c1 => ?_)
  · skip
    refine x_iconst hx hb dX5_isKind_36 ?_
    refine lv_goto (tgt := 41) hx hb dX5_isKind_37 (by decide) ?_
    rw [eQ]
    exact x_zret hx hb hr hlk hW (by omega) ⟨rfl, by omega⟩ dX5_isKind_41
  refine x_iload_n hx hb hl 0 rfl dX5_isKind_6 rfl ?_
  refine x_bipush hx hb dX5_isKind_7 (by decide) ?_
  refine x_icmp_eq (tgt := 36) hx hb rx (by decide) dX5_isKind_9 (by decide) (fun c2 => ?_) (fun c2 => ?_)
  · skip
    refine x_iconst hx hb dX5_isKind_36 ?_
    refine lv_goto (tgt := 41) hx hb dX5_isKind_37 (by decide) ?_
    rw [eQ]
    exact x_zret hx hb hr hlk hW (by omega) ⟨rfl, by omega⟩ dX5_isKind_41
  refine x_iload_n hx hb hl 0 rfl dX5_isKind_12 rfl ?_
  refine x_bipush hx hb dX5_isKind_13 (by decide) ?_
  refine x_icmp_eq (tgt := 36) hx hb rx (by decide) dX5_isKind_15 (by decide) (fun c3 => ?_) (fun c3 => ?_)
  · skip
    refine x_iconst hx hb dX5_isKind_36 ?_
    refine lv_goto (tgt := 41) hx hb dX5_isKind_37 (by decide) ?_
    rw [eQ]
    exact x_zret hx hb hr hlk hW (by omega) ⟨rfl, by omega⟩ dX5_isKind_41
  refine x_iload_n hx hb hl 0 rfl dX5_isKind_18 rfl ?_
  refine x_bipush hx hb dX5_isKind_19 (by decide) ?_
  refine x_icmp_eq (tgt := 36) hx hb rx (by decide) dX5_isKind_21 (by decide) (fun c4 => ?_) (fun c4 => ?_)
  · skip
    refine x_iconst hx hb dX5_isKind_36 ?_
    refine lv_goto (tgt := 41) hx hb dX5_isKind_37 (by decide) ?_
    rw [eQ]
    exact x_zret hx hb hr hlk hW (by omega) ⟨rfl, by omega⟩ dX5_isKind_41
  refine x_iload_n hx hb hl 0 rfl dX5_isKind_24 rfl ?_
  refine x_bipush hx hb dX5_isKind_25 (by decide) ?_
  refine x_icmp_eq (tgt := 36) hx hb rx (by decide) dX5_isKind_27 (by decide) (fun c5 => ?_) (fun c5 => ?_)
  · skip
    refine x_iconst hx hb dX5_isKind_36 ?_
    refine lv_goto (tgt := 41) hx hb dX5_isKind_37 (by decide) ?_
    rw [eQ]
    exact x_zret hx hb hr hlk hW (by omega) ⟨rfl, by omega⟩ dX5_isKind_41
  refine x_iload_n hx hb hl 0 rfl dX5_isKind_30 rfl ?_
  refine x_bipush hx hb dX5_isKind_31 (by decide) ?_
  refine x_icmp_ne (tgt := 40) hx hb rx (by decide) dX5_isKind_33 (by decide) (fun c6 => ?_) (fun c6 => ?_)
  · skip
    refine x_iconst hx hb dX5_isKind_40 ?_
    rw [eQ]
    exact x_zret hx hb hr hlk hW (by omega) ⟨rfl, by omega⟩ dX5_isKind_41
  refine x_iconst hx hb dX5_isKind_36 ?_
  refine lv_goto (tgt := 41) hx hb dX5_isKind_37 (by decide) ?_
  rw [eQ]
  exact x_zret hx hb hr hlk hW (by omega) ⟨rfl, by omega⟩ dX5_isKind_41
set_option maxHeartbeats 4000000 in
set_option maxRecDepth 100000 in
theorem c_X5_readNumberK (l : Launch) (D : va_G) (g : xG) (T : Nat × Nat × Nat) (h0 : Nat) (s0 : xS) (hσ : xRR s0) (f9 : Int → Int) (n9 : Int) (qb : Int) (K9 : Int) (b9 : Int) (B9 : Int → Int) (Z : Int × Int × Int × (Int → Int)) (c9 : Int) (C9 : Int → Int) (st : List Int) (s9 : Int) (a9 : Int) (O9 : Int → Int) (V9 : Int → Int) (hf : s0 2 = f9 ∧ s0 1 2 = n9) (hz : zEX f9 n9 qb 0 K9 b9 B9 Z true (s0 1 3) c9 C9 st) (hrd : zRD s0 s9 a9 c9 C9 O9 V9) (hd : zdg (zch f9 n9 (s0 1 3))) (p0 : IC s0) : Met l yX5_readNumber (xws yX5_readNumber cX5_readNumber 3 (some .boolean)) { frames := 2, cells := 0, slots := 0, locals := 40 } (xP [.ref (h0 + 117)] D g T h0 s0) (xQi D g h0 (fun r τ => xFr (fun k => k = 1 ∨ k = 118 ∨ k = 119 ∨ k = 120) s0 τ ∧ (((IC τ) ∧ (τ 1 1 = s0 1 1) ∧ (τ 1 2 = s0 1 2) ∧ True) ∧ ((r = 1 ∧ s0 1 3 + 1 ≤ τ 1 3 ∧ ∃ c2 C2, zEX f9 n9 qb 0 K9 b9 B9 Z false (τ 1 3) c2 C2 st ∧ zRD τ s9 a9 c2 C2 O9 V9) ∨ (r = 0 ∧ Z.1 ≠ 0 ∧ τ 1 4 = Z.1))))) 0 0 (xA h0) := by
  refine x_met hσ (by decide) (Nat.le_of_ble_eq_true rfl) ?_
  intro p e s m args below meth c hx hb hr hml hown hT hlk hnm hE hW ls hl
  have hl : lv_has ls 3 [(0, .ref (h0 + 117))] := hl
  obtain ⟨Q, eQ⟩ : ∃ Q, Q = MQ below (xQi D g h0 (fun r τ => xFr (fun k => k = 1 ∨ k = 118 ∨ k = 119 ∨ k = 120) s0 τ ∧ (((IC τ) ∧ (τ 1 1 = s0 1 1) ∧ (τ 1 2 = s0 1 2) ∧ True) ∧ ((r = 1 ∧ s0 1 3 + 1 ≤ τ 1 3 ∧ ∃ c2 C2, zEX f9 n9 qb 0 K9 b9 B9 Z false (τ 1 3) c2 C2 st ∧ zRD τ s9 a9 c2 C2 O9 V9) ∨ (r = 0 ∧ Z.1 ≠ 0 ∧ τ 1 4 = Z.1))))) args s 0 0 (xA h0) := ⟨_, rfl⟩
  rw [← eQ]
  generalize hHe : ([] : List Loc) = locs at hW ⊢
  obtain ⟨H, eH⟩ : ∃ H, H = s.heap := ⟨_, rfl⟩
  rw [← eH] at hW ⊢
  have hF : xFr (fun k => k = 1 ∨ k = 118 ∨ k = 119 ∨ k = 120) s0 s0 := xFr.rf
  have k1_1 : s0 1 1 = s0 1 1 := rfl
  have k1_2 : s0 1 2 = s0 1 2 := rfl
  have k1_3 : s0 1 3 = s0 1 3 := rfl
  have hb9 := hz.b
  have hrb := hrd.b
  have hsh := hz.sh
  have hf2 := hf.2
  have hdl := zdg_lt hd
  refine x_iconst hx hb dX5_readNumber_0 ?_
  refine lv_istore_n (lv' := [(1, .int (xJ 0)), (0, .ref (h0 + 117))]) hx hb dX5_readNumber_1 rfl hl (by decide) rfl (fun ls hl => ?_)
  refine x_iconst hx hb dX5_readNumber_2 ?_
  refine lv_istore_n (lv' := [(2, .int (xJ 0)), (1, .int (xJ 0)), (0, .ref (h0 + 117))]) hx hb dX5_readNumber_3 rfl hl (by decide) rfl (fun ls hl => ?_)
  have L4 : ∀ (fu : Nat) (i1_4 : Int) (i2_4 : Int) (s_4 : xS) (H : Heap) (locs : List Loc) (ls : Array Slot), (xR i1_4) → (xR i2_4) → (xFr (fun k => k = 1 ∨ k = 118 ∨ k = 119 ∨ k = 120) s0 s_4) → (IC s_4) → (s_4 1 1 = s0 1 1) → (s_4 1 2 = s0 1 2) → (0 ≤ i2_4 ∧ i2_4 ≤ 5) → (s_4 1 3 = s0 1 3 + i2_4 ∧ s_4 1 3 ≤ n9) → (znr f9 n9 5 (s0 1 3) 0 = znr f9 n9 (5 - i2_4).toNat (s_4 1 3) i1_4) → (zNB i2_4 i1_4) → (zRD s_4 s9 a9 c9 C9 O9 V9) → (5 - i2_4).toNat < fu → xW D g h0 s H locs s_4 → lv_has ls 3 [(0, .ref (h0 + 117)), (1, .int (xJ i1_4)), (2, .int (xJ i2_4))] → W p l e { frames := 2, cells := 0, slots := 0, locals := 40 } s m args below meth c H locs 0 0 Q (F0 m 4 ls []) := by
    intro fu
    induction fu with
    | zero => intro i1_4 i2_4 s_4 H locs ls ri1_4 ri2_4 hF_4 q4_0 q4_1 q4_2 v4_0 v4_1 v4_2 v4_3 v4_4 hm; exact absurd hm (Nat.not_lt_zero _)
    | succ fu ih4 =>
      intro i1_4 i2_4 s_4 H locs ls ri1_4 ri2_4 hF_4 q4_0 q4_1 q4_2 v4_0 v4_1 v4_2 v4_3 v4_4 hm hW hl
      have n4 := zNB_le v4_3
      refine x_iload_n hx hb hl 2 rfl dX5_readNumber_4 rfl ?_
      refine x_iconst hx hb dX5_readNumber_5 ?_
      refine x_icmp_ge (tgt := 54) hx hb ri2_4 (by decide) dX5_readNumber_6 (by decide) (fun c1 => ?_) (fun c1 => ?_)
      · skip
        refine x_aload_n hx hb hl 0 rfl dX5_readNumber_54 rfl ?_
        refine x_get (j := 0) (v := .ref (h0 + 1)) hx hb hown hT hE hW cls_X5 (Or.inl (by decide)) (so_117 h0 g _) (by decide) rfl wq293 dX5_readNumber_55 ?_
        refine x_goi (x_runVN (As := []) hx hb hml hown hT hE hW hl.1 (Or.inl (by decide)) (so_1 h0 g _) rfl cf_X8_isDigit wq664 wq19 wn662 (c_X8_isDigitK l D g T h0 s_4 hW.2.1 f9 n9 (by first | exact hf | exact ⟨(hF_4 2 (by omega)).trans hf.1, by omega⟩) (by omega) q4_0) ⟨rfl, rfl, ⟨by decide, by decide⟩, ⟨by decide, by decide⟩⟩ rfl rfl (Nat.le_of_ble_eq_true rfl) dX5_readNumber_58) hW (fun x2 s3 H locs rx2 hp4 hW => ?_)
        obtain ⟨es3, hp4⟩ := hp4
        subst es3
        have ghp4 := hp4
        have H58 := ghp4
        have P58 : znr f9 n9 5 (s0 1 3) 0 = (s_4 1 3, i1_4) := by first | exact v4_2.trans (znr_0 (by omega)) | exact v4_2.trans (znr_no (H13.resolve_left (fun q => by omega)).2)
        have Q58 := znr_5 f9 n9 (s0 1 3)
        refine x_if_eq (tgt := 80) hx hb rx2 dX5_readNumber_61 (by decide) (fun c5 => ?_) (fun c5 => ?_)
        · skip
          refine x_aload_n hx hb hl 0 rfl dX5_readNumber_80 rfl ?_
          refine x_get (j := 1) (v := .ref (h0 + 118)) hx hb hown hT hE hW cls_X5 (Or.inl (by decide)) (so_117 h0 g _) (by decide) rfl wq294 dX5_readNumber_81 ?_
          refine x_iconst hx hb dX5_readNumber_84 ?_
          refine x_iload_n hx hb hl 1 rfl dX5_readNumber_85 rfl ?_
          refine x_goi (x_runVN (As := [.int (xJ 1), .int (xJ i1_4)]) hx hb hml hown hT hE hW hl.1 (Or.inl (by decide)) (so_118 h0 g _) rfl cf_X4_put wq672 wq21 wn670 (c_X4_putK l D g T h0 s_4 hW.2.1 1 (by decide) i1_4 ri1_4 q4_0) ⟨rfl, rfl, ⟨by decide, by decide⟩, ⟨by decide, by decide⟩⟩ rfl rfl (Nat.le_of_ble_eq_true rfl) dX5_readNumber_86) hW (fun x6 s7 H locs rx6 hp8 hW => ?_)
          obtain ⟨fs7, hp8⟩ := hp8
          have hF9 := hF_4.call fs7 (fun k h => by omega)
          have q10 : s7 1 1 = s0 1 1 := (congrFun (fs7 _ (by omega)) _).trans q4_1
          have q11 : s7 1 2 = s0 1 2 := (congrFun (fs7 _ (by omega)) _).trans q4_2
          have ghp8 := hp8.2
          have H86 := ghp8 (by have y := v4_4.b; omega)
          have F86 : s7 1 3 = s_4 1 3 := congrFun (fs7 1 (by omega)) 3
          refine lv_pop hx hb dX5_readNumber_89 rfl ?_
          refine x_iconst hx hb dX5_readNumber_90 ?_
          rw [eQ]
          exact x_zret hx hb hr hlk hW (by omega) ⟨hF9, ⟨hp8.1.1, q10, q11, trivial⟩, by
    have y := (znr_p (f := f9) (n := n9) 5 (s0 1 3) 0).2.2 hd (by decide)
    rw [P58] at y
    have y : s0 1 3 + 1 ≤ s_4 1 3 := y
    exact Or.inl ⟨by omega, by omega, c9 + 1, xud C9 c9 (znr f9 n9 5 (s0 1 3) 0).2, hz.num hd (by rw [P58]; show _ = s_4 1 3; omega) (by rw [show s7 1 3 = s_4 1 3 from by omega]; exact (H58.resolve_left (fun q => by omega)).2) rfl rfl, v4_4.put H86.2.1 H86.2.2.1 H86.2.2.2 (zom_n (by omega)).1 (by rw [P58]; exact (zom_n (by omega)).2 _) rfl rfl⟩⟩ dX5_readNumber_91
        refine x_aload_n hx hb hl 0 rfl dX5_readNumber_64 rfl ?_
        refine x_get (j := 0) (v := .ref (h0 + 1)) hx hb hown hT hE hW cls_X5 (Or.inl (by decide)) (so_117 h0 g _) (by decide) rfl wq293 dX5_readNumber_65 ?_
        refine x_iconst hx hb dX5_readNumber_68 ?_
        refine x_aload_n hx hb hl 0 rfl dX5_readNumber_69 rfl ?_
        refine x_get (j := 0) (v := .ref (h0 + 1)) hx hb hown hT hE hW cls_X5 (Or.inl (by decide)) (so_117 h0 g _) (by decide) rfl wq293 dX5_readNumber_70 ?_
        refine x_getN (j := 3) (v := .int (xJ (s_4 1 3))) hx hb hown hT hE hW cls_X8 (Or.inl (by decide)) (so_1 h0 g _) (by decide) rfl wn201 dX5_readNumber_73 ?_
        refine x_rd hW (fun x12 ex12 rx12 => ?_)
        refine x_goi (x_runVN (As := [.int (xJ 2), .int (xJ x12)]) hx hb hml hown hT hE hW hl.1 (Or.inl (by decide)) (so_1 h0 g _) rfl cf_X8_fails wq588 wq5 wn645 (c_X8_failsM l D g T h0 s_4 hW.2.1 2 (by decide) x12 rx12 (by omega) q4_0) ⟨rfl, rfl, ⟨by decide, by decide⟩, ⟨by decide, by decide⟩⟩ rfl rfl (Nat.le_of_ble_eq_true rfl) dX5_readNumber_76) hW (fun x13 s14 H locs rx13 hp15 hW => ?_)
        obtain ⟨fs14, hp15⟩ := hp15
        have hF16 := hF_4.call fs14 (fun k h => by omega)
        have ghp15 := hp15.2
        rw [eQ]
        exact x_zret hx hb hr hlk hW (by omega) ⟨hF16, ⟨hp15.1.1, (hp15.1.2.1.trans q4_1), (hp15.1.2.2.1.trans q4_2), trivial⟩, by
    have z := hz.two hd (by rw [P58]) (H58.resolve_right (fun q => by omega)).2
    rw [z]
    exact Or.inr ⟨by omega, (by show (-2000 - _ : Int) ≠ 0; omega), (by show _ = (-2000 - _ : Int); omega)⟩⟩ dX5_readNumber_79
      refine x_aload_n hx hb hl 0 rfl dX5_readNumber_9 rfl ?_
      refine x_get (j := 0) (v := .ref (h0 + 1)) hx hb hown hT hE hW cls_X5 (Or.inl (by decide)) (so_117 h0 g _) (by decide) rfl wq293 dX5_readNumber_10 ?_
      refine x_goi (x_runVN (As := []) hx hb hml hown hT hE hW hl.1 (Or.inl (by decide)) (so_1 h0 g _) rfl cf_X8_isDigit wq664 wq19 wn662 (c_X8_isDigitK l D g T h0 s_4 hW.2.1 f9 n9 (by first | exact hf | exact ⟨(hF_4 2 (by omega)).trans hf.1, by omega⟩) (by omega) q4_0) ⟨rfl, rfl, ⟨by decide, by decide⟩, ⟨by decide, by decide⟩⟩ rfl rfl (Nat.le_of_ble_eq_true rfl) dX5_readNumber_13) hW (fun x17 s18 H locs rx17 hp19 hW => ?_)
      obtain ⟨es18, hp19⟩ := hp19
      subst es18
      have ghp19 := hp19
      have H13 := ghp19
      refine x_if_eq (tgt := 54) hx hb rx17 dX5_readNumber_16 (by decide) (fun c20 => ?_) (fun c20 => ?_)
      · skip
        refine x_aload_n hx hb hl 0 rfl dX5_readNumber_54 rfl ?_
        refine x_get (j := 0) (v := .ref (h0 + 1)) hx hb hown hT hE hW cls_X5 (Or.inl (by decide)) (so_117 h0 g _) (by decide) rfl wq293 dX5_readNumber_55 ?_
        refine x_goi (x_runVN (As := []) hx hb hml hown hT hE hW hl.1 (Or.inl (by decide)) (so_1 h0 g _) rfl cf_X8_isDigit wq664 wq19 wn662 (c_X8_isDigitK l D g T h0 s_4 hW.2.1 f9 n9 (by first | exact hf | exact ⟨(hF_4 2 (by omega)).trans hf.1, by omega⟩) (by omega) q4_0) ⟨rfl, rfl, ⟨by decide, by decide⟩, ⟨by decide, by decide⟩⟩ rfl rfl (Nat.le_of_ble_eq_true rfl) dX5_readNumber_58) hW (fun x21 s22 H locs rx21 hp23 hW => ?_)
        obtain ⟨es22, hp23⟩ := hp23
        subst es22
        have ghp23 := hp23
        have H58 := ghp23
        have P58 : znr f9 n9 5 (s0 1 3) 0 = (s_4 1 3, i1_4) := by first | exact v4_2.trans (znr_0 (by omega)) | exact v4_2.trans (znr_no (H13.resolve_left (fun q => by omega)).2)
        have Q58 := znr_5 f9 n9 (s0 1 3)
        refine x_if_eq (tgt := 80) hx hb rx21 dX5_readNumber_61 (by decide) (fun c24 => ?_) (fun c24 => ?_)
        · skip
          refine x_aload_n hx hb hl 0 rfl dX5_readNumber_80 rfl ?_
          refine x_get (j := 1) (v := .ref (h0 + 118)) hx hb hown hT hE hW cls_X5 (Or.inl (by decide)) (so_117 h0 g _) (by decide) rfl wq294 dX5_readNumber_81 ?_
          refine x_iconst hx hb dX5_readNumber_84 ?_
          refine x_iload_n hx hb hl 1 rfl dX5_readNumber_85 rfl ?_
          refine x_goi (x_runVN (As := [.int (xJ 1), .int (xJ i1_4)]) hx hb hml hown hT hE hW hl.1 (Or.inl (by decide)) (so_118 h0 g _) rfl cf_X4_put wq672 wq21 wn670 (c_X4_putK l D g T h0 s_4 hW.2.1 1 (by decide) i1_4 ri1_4 q4_0) ⟨rfl, rfl, ⟨by decide, by decide⟩, ⟨by decide, by decide⟩⟩ rfl rfl (Nat.le_of_ble_eq_true rfl) dX5_readNumber_86) hW (fun x25 s26 H locs rx25 hp27 hW => ?_)
          obtain ⟨fs26, hp27⟩ := hp27
          have hF28 := hF_4.call fs26 (fun k h => by omega)
          have q29 : s26 1 1 = s0 1 1 := (congrFun (fs26 _ (by omega)) _).trans q4_1
          have q30 : s26 1 2 = s0 1 2 := (congrFun (fs26 _ (by omega)) _).trans q4_2
          have ghp27 := hp27.2
          have H86 := ghp27 (by have y := v4_4.b; omega)
          have F86 : s26 1 3 = s_4 1 3 := congrFun (fs26 1 (by omega)) 3
          refine lv_pop hx hb dX5_readNumber_89 rfl ?_
          refine x_iconst hx hb dX5_readNumber_90 ?_
          rw [eQ]
          exact x_zret hx hb hr hlk hW (by omega) ⟨hF28, ⟨hp27.1.1, q29, q30, trivial⟩, by
    have y := (znr_p (f := f9) (n := n9) 5 (s0 1 3) 0).2.2 hd (by decide)
    rw [P58] at y
    have y : s0 1 3 + 1 ≤ s_4 1 3 := y
    exact Or.inl ⟨by omega, by omega, c9 + 1, xud C9 c9 (znr f9 n9 5 (s0 1 3) 0).2, hz.num hd (by rw [P58]; show _ = s_4 1 3; omega) (by rw [show s26 1 3 = s_4 1 3 from by omega]; exact (H58.resolve_left (fun q => by omega)).2) rfl rfl, v4_4.put H86.2.1 H86.2.2.1 H86.2.2.2 (zom_n (by omega)).1 (by rw [P58]; exact (zom_n (by omega)).2 _) rfl rfl⟩⟩ dX5_readNumber_91
        refine x_aload_n hx hb hl 0 rfl dX5_readNumber_64 rfl ?_
        refine x_get (j := 0) (v := .ref (h0 + 1)) hx hb hown hT hE hW cls_X5 (Or.inl (by decide)) (so_117 h0 g _) (by decide) rfl wq293 dX5_readNumber_65 ?_
        refine x_iconst hx hb dX5_readNumber_68 ?_
        refine x_aload_n hx hb hl 0 rfl dX5_readNumber_69 rfl ?_
        refine x_get (j := 0) (v := .ref (h0 + 1)) hx hb hown hT hE hW cls_X5 (Or.inl (by decide)) (so_117 h0 g _) (by decide) rfl wq293 dX5_readNumber_70 ?_
        refine x_getN (j := 3) (v := .int (xJ (s_4 1 3))) hx hb hown hT hE hW cls_X8 (Or.inl (by decide)) (so_1 h0 g _) (by decide) rfl wn201 dX5_readNumber_73 ?_
        refine x_rd hW (fun x31 ex31 rx31 => ?_)
        refine x_goi (x_runVN (As := [.int (xJ 2), .int (xJ x31)]) hx hb hml hown hT hE hW hl.1 (Or.inl (by decide)) (so_1 h0 g _) rfl cf_X8_fails wq588 wq5 wn645 (c_X8_failsM l D g T h0 s_4 hW.2.1 2 (by decide) x31 rx31 (by omega) q4_0) ⟨rfl, rfl, ⟨by decide, by decide⟩, ⟨by decide, by decide⟩⟩ rfl rfl (Nat.le_of_ble_eq_true rfl) dX5_readNumber_76) hW (fun x32 s33 H locs rx32 hp34 hW => ?_)
        obtain ⟨fs33, hp34⟩ := hp34
        have hF35 := hF_4.call fs33 (fun k h => by omega)
        have ghp34 := hp34.2
        rw [eQ]
        exact x_zret hx hb hr hlk hW (by omega) ⟨hF35, ⟨hp34.1.1, (hp34.1.2.1.trans q4_1), (hp34.1.2.2.1.trans q4_2), trivial⟩, by
    have z := hz.two hd (by rw [P58]) (H58.resolve_right (fun q => by omega)).2
    rw [z]
    exact Or.inr ⟨by omega, (by show (-2000 - _ : Int) ≠ 0; omega), (by show _ = (-2000 - _ : Int); omega)⟩⟩ dX5_readNumber_79
      refine x_bipush hx hb dX5_readNumber_19 (by decide) ?_
      refine x_iload_n hx hb hl 1 rfl dX5_readNumber_21 rfl ?_
      refine x_imul hx hb dX5_readNumber_22 ?_
      refine x_aload_n hx hb hl 0 rfl dX5_readNumber_23 rfl ?_
      refine x_get (j := 0) (v := .ref (h0 + 1)) hx hb hown hT hE hW cls_X5 (Or.inl (by decide)) (so_117 h0 g _) (by decide) rfl wq293 dX5_readNumber_24 ?_
      refine x_goi (x_runVN (As := []) hx hb hml hown hT hE hW hl.1 (Or.inl (by decide)) (so_1 h0 g _) rfl cf_X8_sign wq581 wq4 wn641 (c_X8_sign l D g T h0 s_4 hW.2.1 q4_0) ⟨rfl, rfl, ⟨by decide, by decide⟩, ⟨by decide, by decide⟩⟩ rfl rfl (Nat.le_of_ble_eq_true rfl) dX5_readNumber_27) hW (fun x36 s37 H locs rx36 hp38 hW => ?_)
      obtain ⟨es37, hp38⟩ := hp38
      subst es37
      have ghp38 := hp38
      have D13 := (H13.resolve_right (fun q => by omega)).2
      have L13 := zdg_lt D13
      have C27 : x36 = zch f9 n9 (s_4 1 3) := zch_i (by have q8 := congrFun (show s_4 2 = f9 from (hF_4 2 (by omega)).trans hf.1) (s_4 1 3); have q9 := hf.2; omega)
      have D27 : 48 ≤ x36 ∧ x36 ≤ 57 := by rw [C27]; exact D13
      refine x_iadd hx hb dX5_readNumber_30 ?_
      refine x_bipush hx hb dX5_readNumber_31 (by decide) ?_
      refine x_isub hx hb dX5_readNumber_33 ?_
      refine x_nm (fun x39 ex39 => ?_)
      refine lv_istore_n (lv' := [(1, .int (xJ x39)), (0, .ref (h0 + 117)), (2, .int (xJ i2_4))]) hx hb dX5_readNumber_34 rfl hl (by decide) rfl (fun ls hl => ?_)
      refine x_aload_n hx hb hl 1 rfl dX5_readNumber_35 rfl ?_
      refine x_get (j := 0) (v := .ref (h0 + 1)) hx hb hown hT hE hW cls_X5 (Or.inl (by decide)) (so_117 h0 g _) (by decide) rfl wq293 dX5_readNumber_36 ?_
      refine lv_dup hx hb dX5_readNumber_39 rfl ?_
      refine x_getN (j := 3) (v := .int (xJ (s_4 1 3))) hx hb hown hT hE hW cls_X8 (Or.inl (by decide)) (so_1 h0 g _) (by decide) rfl wn201 dX5_readNumber_40 ?_
      refine x_rd hW (fun x40 ex40 rx40 => ?_)
      refine x_iconst hx hb dX5_readNumber_43 ?_
      refine x_iadd hx hb dX5_readNumber_44 ?_
      refine x_putN (j := 3) hx hb hown hT hE hW cls_X8 (by decide) (fun σ => so_1 h0 g σ) (by decide) (st_X8_3 h0 s_4 1 (x40 + 1)) (ln_X8_3 h0 _ _) wn201 rfl rfl rfl (by omega) dX5_readNumber_45 (fun H locs s41 es41 hW => ?_)
      have q42 : IC s41 := by rw [es41]; exact IC_1 q4_0 (by omega)
      have q43 : s41 1 1 = s0 1 1 := (show s41 1 1 = s_4 1 1 from by rw [es41, xU_j _ _ (by decide)]).trans q4_1
      have q44 : s41 1 2 = s0 1 2 := (show s41 1 2 = s_4 1 2 from by rw [es41, xU_j _ _ (by decide)]).trans q4_2
      have q45 : s41 1 3 = (x40 + 1) := by rw [es41, xU_s]
      have hF46 := hF_4.put es41 (by omega)
      refine x_iinc (lv' := [(2, .int (xJ (i2_4 + 1))), (1, .int (xJ x39)), (0, .ref (h0 + 117))]) hx hb hl 2 rfl dX5_readNumber_48 (by decide) rfl (fun ls hl => ?_)
      refine lv_goto (tgt := 4) hx hb dX5_readNumber_51 (by decide) ?_
      exact ih4 x39 (i2_4 + 1) s41 H locs ls (by omega) (by omega) hF46 q42 q43 q44 (by omega) (by omega) (v4_2.trans (znr_go (by omega) D13 (by omega) (by omega))) (zNB_s v4_3 (by omega) (by omega) (by have := D13.1; have := D13.2; omega)) (v4_4.u es41 (by decide)) (by omega) hW (lv_sub hl [2, 1, 0] rfl)
  exact L4 ((5 - 0 : Int).toNat + 1) 0 0 s0 H locs ls (by decide) (by decide) hF p0 k1_1 k1_2 (by omega) (by omega) (rfl) (zNB_0 rfl rfl) (hrd) (Nat.lt_succ_self _) hW (lv_sub hl [2, 1, 0] rfl)

