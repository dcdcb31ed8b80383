set_option maxHeartbeats 4000000 in
set_option maxRecDepth 100000 in
theorem c_X1_handOn (l : Launch) (D : va_G) (g : xG) (T : Nat × Nat × Nat) (h0 : Nat) (s0 : xS) (hσ : xRR s0) (a : Int) (ra : xR a) (p0 : IC s0) : Met l yX1_handOn (xws yX1_handOn cX1_handOn 6 none) { frames := 1, cells := 0, slots := 0, locals := 20 } (xP [.ref (h0 + 261), .int (xJ a)] D g T h0 s0) (xQv D g h0 (fun τ => xFr (fun k => k = 263 ∨ k = 264) s0 τ ∧ (((IC τ) ∧ True) ∧ (True)))) 0 0 (xA h0) := by
  refine x_met hσ (by decide) (Nat.le_of_ble_eq_true rfl) ?_
  intro p e s m args below meth c hx hb hr hml hown hT hlk hnm hE hW ls hl
  have hl : lv_has ls 6 [(0, .ref (h0 + 261)), (1, .int (xJ a))] := hl
  obtain ⟨Q, eQ⟩ : ∃ Q, Q = MQ below (xQv D g h0 (fun τ => xFr (fun k => k = 263 ∨ k = 264) s0 τ ∧ (((IC τ) ∧ True) ∧ (True)))) args s 0 0 (xA h0) := ⟨_, rfl⟩
  rw [← eQ]
  generalize hHe : ([] : List Loc) = locs at hW ⊢
  obtain ⟨H, eH⟩ : ∃ H, H = s.heap := ⟨_, rfl⟩
  rw [← eH] at hW ⊢
  have hF : xFr (fun k => k = 263 ∨ k = 264) s0 s0 := xFr.rf
  have k1_1 : s0 1 1 = s0 1 1 := rfl
  refine x_iload_n hx hb hl 1 rfl dX1_handOn_0 rfl ?_
  refine lv_istore_n (lv' := [(2, .int (xJ a)), (0, .ref (h0 + 261)), (1, .int (xJ a))]) hx hb dX1_handOn_1 rfl hl (by decide) rfl (fun ls hl => ?_)
  refine x_iconst hx hb dX1_handOn_2 ?_
  refine lv_istore_n (lv' := [(3, .int (xJ 0)), (2, .int (xJ a)), (0, .ref (h0 + 261)), (1, .int (xJ a))]) hx hb dX1_handOn_3 rfl hl (by decide) rfl (fun ls hl => ?_)
  have L4 : ∀ (fu : Nat) (i2_4 : Int) (i3_4 : Int) (s_4 : xS) (H : Heap) (locs : List Loc) (ls : Array Slot), (xR i2_4) → (xR i3_4) → (xFr (fun k => k = 263 ∨ k = 264) s0 s_4) → (IC s_4) → (s_4 1 1 = s0 1 1) → (0 ≤ i3_4) → (i3_4 ≤ 10) → (10 + 1 - i3_4).toNat < fu → xW D g h0 s H locs s_4 → lv_has ls 6 [(0, .ref (h0 + 261)), (2, .int (xJ i2_4)), (3, .int (xJ i3_4))] → W p l e { frames := 1, cells := 0, slots := 0, locals := 20 } s m args below meth c H locs 0 0 Q (F0 m 4 ls []) := by
    intro fu
    induction fu with
    | zero => intro i2_4 i3_4 s_4 H locs ls ri2_4 ri3_4 hF_4 q4_0 q4_1 v4_0 v4_1 hm; exact absurd hm (Nat.not_lt_zero _)
    | succ fu ih4 =>
      intro i2_4 i3_4 s_4 H locs ls ri2_4 ri3_4 hF_4 q4_0 q4_1 v4_0 v4_1 hm hW hl
      refine x_iload_n hx hb hl 2 rfl dX1_handOn_4 rfl ?_
      refine x_bipush hx hb dX1_handOn_5 (by decide) ?_
      refine x_icmp_ge (tgt := 72) hx hb ri3_4 (by decide) dX1_handOn_7 (by decide) (fun c1 => ?_) (fun c1 => ?_)
      · skip
        rw [eQ]
        exact x_vret hx hb hr hlk hW ⟨hF_4, ⟨q4_0, trivial⟩, trivial⟩ dX1_handOn_72
      refine x_iload_n hx hb hl 1 rfl dX1_handOn_10 rfl ?_
      refine x_goi (x_runSN (As := [.int (xJ i2_4)]) hx hb hml hown hT hE hW hl.1 cf_X6_isSpot wq831 wn970 (c_X6_isSpot l D g T h0 s_4 hW.2.1 i2_4 ri2_4) ⟨rfl, rfl, ⟨by decide, by decide⟩, ⟨by decide, by decide⟩⟩ rfl rfl (Nat.le_of_ble_eq_true rfl) dX1_handOn_11) hW (fun x2 s3 H locs rx2 hp4 hW => ?_)
      obtain ⟨es3, hp4⟩ := hp4
      subst es3
      have ghp4 := hp4
      refine x_if_eq (tgt := 72) hx hb rx2 dX1_handOn_14 (by decide) (fun c5 => ?_) (fun c5 => ?_)
      · skip
        rw [eQ]
        exact x_vret hx hb hr hlk hW ⟨hF_4, ⟨q4_0, trivial⟩, trivial⟩ dX1_handOn_72
      refine x_aload_n hx hb hl 0 rfl dX1_handOn_17 rfl ?_
      refine x_get (j := 4) (v := .ref (h0 + 265)) hx hb hown hT hE hW cls_X1 (Or.inl (by decide)) (so_261 h0 g _) (by decide) rfl wq497 dX1_handOn_18 ?_
      refine x_iload_n hx hb hl 1 rfl dX1_handOn_21 rfl ?_
      refine x_iald hx hb hE hW (Or.inl (by decide)) (sa_265 h0 g _) (by omega) (by decide) dX1_handOn_22 ?_
      refine x_rd hW (fun x6 ex6 rx6 => ?_)
      refine lv_istore (lv' := [(4, .int (xJ x6)), (0, .ref (h0 + 261)), (2, .int (xJ i2_4)), (3, .int (xJ i3_4))]) hx hb dX1_handOn_23 hl (by decide) rfl (fun ls hl => ?_)
      refine x_iload hx hb hl 0 rfl dX1_handOn_25 ?_
      refine x_if_lt (tgt := 37) hx hb rx6 dX1_handOn_27 (by decide) (fun c7 => ?_) (fun c7 => ?_)
      · skip
        rw [eQ]
        exact x_vret hx hb hr hlk hW ⟨hF_4, ⟨q4_0, trivial⟩, trivial⟩ dX1_handOn_37
      refine x_iload hx hb hl 0 rfl dX1_handOn_30 ?_
      refine x_bipush hx hb dX1_handOn_32 (by decide) ?_
      refine x_icmp_lt (tgt := 38) hx hb rx6 (by decide) dX1_handOn_34 (by decide) (fun c8 => ?_) (fun c8 => ?_)
      · skip
        refine x_aload_n hx hb hl 1 rfl dX1_handOn_38 rfl ?_
        refine x_get (j := 2) (v := .ref (h0 + 263)) hx hb hown hT hE hW cls_X1 (Or.inl (by decide)) (so_261 h0 g _) (by decide) rfl wq495 dX1_handOn_39 ?_
        refine x_iload hx hb hl 0 rfl dX1_handOn_42 ?_
        refine x_iald hx hb hE hW (Or.inl (by decide)) (sa_263 h0 g _) (by omega) (by decide) dX1_handOn_44 ?_
        refine x_rd hW (fun x9 ex9 rx9 => ?_)
        refine lv_istore (lv' := [(5, .int (xJ x9)), (4, .int (xJ x6)), (0, .ref (h0 + 261)), (2, .int (xJ i2_4)), (3, .int (xJ i3_4))]) hx hb dX1_handOn_45 hl (by decide) rfl (fun ls hl => ?_)
        refine x_aload_n hx hb hl 2 rfl dX1_handOn_47 rfl ?_
        refine x_get (j := 3) (v := .ref (h0 + 264)) hx hb hown hT hE hW cls_X1 (Or.inl (by decide)) (so_261 h0 g _) (by decide) rfl wq496 dX1_handOn_48 ?_
        refine x_iload_n hx hb hl 3 rfl dX1_handOn_51 rfl ?_
        refine x_iload hx hb hl 1 rfl dX1_handOn_52 ?_
        refine x_iast hx hb hE hW (by decide) (fun σ => sa_264 h0 g σ) (by omega) (by decide) rx6 dX1_handOn_54 (fun H locs s10 es10 hW => ?_)
        have q11 : IC s10 := by rw [es10]; exact IC_o (by decide) q4_0
        have q12 : s10 1 1 = s0 1 1 := (show s10 1 1 = s_4 1 1 from by rw [es10, xU_k _ _ _ (by omega)]).trans q4_1
        have hF13 := hF_4.put es10 (by omega)
        refine x_aload_n hx hb hl 2 rfl dX1_handOn_55 rfl ?_
        refine x_get (j := 2) (v := .ref (h0 + 263)) hx hb hown hT hE hW cls_X1 (Or.inl (by decide)) (so_261 h0 g _) (by decide) rfl wq495 dX1_handOn_56 ?_
        refine x_iload hx hb hl 1 rfl dX1_handOn_59 ?_
        refine x_iload_n hx hb hl 3 rfl dX1_handOn_61 rfl ?_
        refine x_iast hx hb hE hW (by decide) (fun σ => sa_263 h0 g σ) (by omega) (by decide) ri2_4 dX1_handOn_62 (fun H locs s14 es14 hW => ?_)
        have q15 : IC s14 := by rw [es14]; exact IC_o (by decide) q11
        have q16 : s14 1 1 = s0 1 1 := (show s14 1 1 = s10 1 1 from by rw [es14, xU_k _ _ _ (by omega)]).trans q12
        have hF17 := hF13.put es14 (by omega)
        refine x_iload hx hb hl 0 rfl dX1_handOn_63 ?_
        refine lv_istore_n (lv' := [(2, .int (xJ x9)), (5, .int (xJ x9)), (4, .int (xJ x6)), (0, .ref (h0 + 261)), (3, .int (xJ i3_4))]) hx hb dX1_handOn_65 rfl hl (by decide) rfl (fun ls hl => ?_)
        refine x_iinc (lv' := [(3, .int (xJ (i3_4 + 1))), (2, .int (xJ x9)), (5, .int (xJ x9)), (4, .int (xJ x6)), (0, .ref (h0 + 261))]) hx hb hl 4 rfl dX1_handOn_66 (by decide) rfl (fun ls hl => ?_)
        refine lv_goto (tgt := 4) hx hb dX1_handOn_69 (by decide) ?_
        exact ih4 x9 (i3_4 + 1) s14 H locs ls rx9 (by omega) hF17 q15 q16 (by omega) (by omega) (by omega) hW (lv_sub hl [4, 1, 0] rfl)
      rw [eQ]
      exact x_vret hx hb hr hlk hW ⟨hF_4, ⟨q4_0, trivial⟩, trivial⟩ dX1_handOn_37
  exact L4 ((10 + 1 - 0 : Int).toNat + 1) a 0 s0 H locs ls ra (by decide) hF p0 k1_1 (by omega) (by omega) (Nat.lt_succ_self _) hW (lv_sub hl [2, 1, 0] rfl)
set_option maxHeartbeats 4000000 in
set_option maxRecDepth 100000 in
theorem c_X1_canGo (l : Launch) (D : va_G) (g : xG) (T : Nat × Nat × Nat) (h0 : Nat) (s0 : xS) (hσ : xRR s0) (d : Nat) (hd : xDay d) (f : Int) (rf : xR f) (a : Int) (ra : xR a) (p0 : IC s0) : Met l yX1_canGo (xws yX1_canGo cX1_canGo 4 (some .boolean)) { frames := 3, cells := 0, slots := 0, locals := 73 } (xP [.ref (h0 + 261), .ref (h0 + d), .int (xJ f), .int (xJ a)] D g T h0 s0) (xQi D g h0 (fun r τ => xFr (fun k => (7 ≤ k ∧ k < 107) ∨ k = 107) s0 τ ∧ (((IC τ) ∧ True) ∧ (r = 0 ∨ (r = 1 ∧ 0 ≤ f ∧ f < 10 ∧ 0 ≤ a ∧ a < 100))))) 0 0 (xA h0) := by
  refine x_met hσ (by decide) (Nat.le_of_ble_eq_true rfl) ?_
  intro p e s m args below meth c hx hb hr hml hown hT hlk hnm hE hW ls hl
  have hl : lv_has ls 4 [(0, .ref (h0 + 261)), (1, .ref (h0 + d)), (2, .int (xJ f)), (3, .int (xJ a))] := hl
  obtain ⟨Q, eQ⟩ : ∃ Q, Q = MQ below (xQi D g h0 (fun r τ => xFr (fun k => (7 ≤ k ∧ k < 107) ∨ k = 107) s0 τ ∧ (((IC τ) ∧ True) ∧ (r = 0 ∨ (r = 1 ∧ 0 ≤ f ∧ f < 10 ∧ 0 ≤ a ∧ a < 100))))) args s 0 0 (xA h0) := ⟨_, rfl⟩
  rw [← eQ]
  generalize hHe : ([] : List Loc) = locs at hW ⊢
  obtain ⟨H, eH⟩ : ∃ H, H = s.heap := ⟨_, rfl⟩
  rw [← eH] at hW ⊢
  have hF : xFr (fun k => (7 ≤ k ∧ k < 107) ∨ k = 107) s0 s0 := xFr.rf
  have hbd : (136 ≤ d ∧ d < 209) ∧ (d ≤ 146 ∨ 158 ≤ d) := by unfold xDay at hd; omega
  have k1_1 : s0 1 1 = s0 1 1 := rfl
  refine x_aload_n hx hb hl 1 rfl dX1_canGo_0 rfl ?_
  refine x_iload_n hx hb hl 2 rfl dX1_canGo_1 rfl ?_
  refine x_goi (x_runVN (As := [.int (xJ f)]) hx hb hml hown hT hE hW hl.1 (Or.inl (by omega)) (so_day0 h0 g hd _) rfl cf_X2_hasFelon wq862 wq53 wn969 (c_X2_hasFelon l D g T h0 s0 hW.2.1 d hd f rf p0) ⟨rfl, rfl, ⟨by decide, by decide⟩, ⟨by decide, by decide⟩⟩ rfl rfl (Nat.le_of_ble_eq_true rfl) dX1_canGo_2) hW (fun x1 s2 H locs rx1 hp3 hW => ?_)
  obtain ⟨es2, hp3⟩ := hp3
  subst es2
  have ghp3 := hp3
  refine x_if_eq (tgt := 45) hx hb rx1 dX1_canGo_5 (by decide) (fun c4 => ?_) (fun c4 => ?_)
  · skip
    refine x_iconst hx hb dX1_canGo_45 ?_
    rw [eQ]
    exact x_zret hx hb hr hlk hW (by omega) ⟨hF, ⟨p0, trivial⟩, by omega⟩ dX1_canGo_46
  refine x_iload_n hx hb hl 3 rfl dX1_canGo_8 rfl ?_
  refine x_goi (x_runSN (As := [.int (xJ a)]) hx hb hml hown hT hE hW hl.1 cf_X6_isSpot wq831 wn970 (c_X6_isSpot l D g T h0 s0 hW.2.1 a ra) ⟨rfl, rfl, ⟨by decide, by decide⟩, ⟨by decide, by decide⟩⟩ rfl rfl (Nat.le_of_ble_eq_true rfl) dX1_canGo_9) hW (fun x5 s6 H locs rx5 hp7 hW => ?_)
  obtain ⟨es6, hp7⟩ := hp7
  subst es6
  have ghp7 := hp7
  refine x_if_eq (tgt := 45) hx hb rx5 dX1_canGo_12 (by decide) (fun c8 => ?_) (fun c8 => ?_)
  · skip
    refine x_iconst hx hb dX1_canGo_45 ?_
    rw [eQ]
    exact x_zret hx hb hr hlk hW (by omega) ⟨hF, ⟨p0, trivial⟩, by omega⟩ dX1_canGo_46
  refine x_aload_n hx hb hl 0 rfl dX1_canGo_15 rfl ?_
  refine x_get (j := 0) (v := .ref (h0 + 128)) hx hb hown hT hE hW cls_X1 (Or.inl (by decide)) (so_261 h0 g _) (by decide) rfl wq493 dX1_canGo_16 ?_
  refine x_getN (j := 0) (v := .ref (h0 + 3)) hx hb hown hT hE hW cls_X0 (Or.inl (by decide)) (so_128 h0 g _) (by decide) rfl wn352 dX1_canGo_19 ?_
  refine x_aload_n hx hb hl 1 rfl dX1_canGo_22 rfl ?_
  refine x_getN (j := 3) (v := .ref (h0 + (d + 6))) hx hb hown hT hE hW cls_X2 (Or.inl (by omega)) (so_day0 h0 g hd _) (by decide) rfl wn389 dX1_canGo_23 ?_
  refine x_iload_n hx hb hl 2 rfl dX1_canGo_26 rfl ?_
  refine x_iald hx hb hE hW (Or.inl (by omega)) (sa_day6 h0 g hd _) (by omega) (by decide) dX1_canGo_27 ?_
  refine x_rd hW (fun x9 ex9 rx9 => ?_)
  refine x_iload_n hx hb hl 3 rfl dX1_canGo_28 rfl ?_
  refine x_goi (x_runVN (As := [.int (xJ x9), .int (xJ a)]) hx hb hml hown hT hE hW hl.1 (Or.inl (by decide)) (so_3 h0 g _) rfl cf_X6_stepsBetween wq888 wq59 wn971 (c_X6_stepsBetween l D g T h0 s0 hW.2.1 x9 rx9 a ra p0) ⟨rfl, rfl, ⟨by decide, by decide⟩, ⟨by decide, by decide⟩⟩ rfl rfl (Nat.le_of_ble_eq_true rfl) dX1_canGo_29) hW (fun x10 s11 H locs rx10 hp12 hW => ?_)
  obtain ⟨fs11, hp12⟩ := hp12
  have hF13 := hF.call fs11 (fun k h => by omega)
  have q14 : s11 1 1 = s0 1 1 := (congrFun (fs11 _ (by omega)) _).trans k1_1
  have ghp12 := hp12.2
  refine x_aload_n hx hb hl 0 rfl dX1_canGo_32 rfl ?_
  refine x_get (j := 1) (v := .ref (h0 + 262)) hx hb hown hT hE hW cls_X1 (Or.inl (by decide)) (so_261 h0 g _) (by decide) rfl wq494 dX1_canGo_33 ?_
  refine x_iload_n hx hb hl 2 rfl dX1_canGo_36 rfl ?_
  refine x_iald hx hb hE hW (Or.inl (by decide)) (sa_262 h0 g _) (by omega) (by decide) dX1_canGo_37 ?_
  refine x_rd hW (fun x15 ex15 rx15 => ?_)
  refine x_icmp_gt (tgt := 45) hx hb rx10 rx15 dX1_canGo_38 (by decide) (fun c16 => ?_) (fun c16 => ?_)
  · skip
    refine x_iconst hx hb dX1_canGo_45 ?_
    rw [eQ]
    exact x_zret hx hb hr hlk hW (by omega) ⟨hF13, ⟨hp12.1.1, trivial⟩, by omega⟩ dX1_canGo_46
  refine x_iconst hx hb dX1_canGo_41 ?_
  refine lv_goto (tgt := 46) hx hb dX1_canGo_42 (by decide) ?_
  rw [eQ]
  exact x_zret hx hb hr hlk hW (by omega) ⟨hF13, ⟨hp12.1.1, trivial⟩, by omega⟩ dX1_canGo_46
set_option maxHeartbeats 4000000 in
set_option maxRecDepth 100000 in
theorem c_X1_findsPlace (l : Launch) (D : va_G) (g : xG) (T : Nat × Nat × Nat) (h0 : Nat) (s0 : xS) (hσ : xRR s0) (d : Nat) (hd : xDay d) (f : Int) (rf : xR f) (p0 : IC s0) : Met l yX1_findsPlace (xws yX1_findsPlace cX1_findsPlace 8 (some .boolean)) { frames := 4, cells := 0, slots := 0, locals := 96 } (xP [.ref (h0 + 261), .ref (h0 + d), .int (xJ f)] D g T h0 s0) (xQi D g h0 (fun r τ => xFr (fun k => (7 ≤ k ∧ k < 107) ∨ k = 107 ∨ k = 263 ∨ k = 264 ∨ k = 265 ∨ k = 266) s0 τ ∧ (((IC τ) ∧ True) ∧ (r = 0 ∨ r = 1)))) 0 0 (xA h0) := by
  refine x_met hσ (by decide) (Nat.le_of_ble_eq_true rfl) ?_
  intro p e s m args below meth c hx hb hr hml hown hT hlk hnm hE hW ls hl
  have hl : lv_has ls 8 [(0, .ref (h0 + 261)), (1, .ref (h0 + d)), (2, .int (xJ f))] := hl
  obtain ⟨Q, eQ⟩ : ∃ Q, Q = MQ below (xQi D g h0 (fun r τ => xFr (fun k => (7 ≤ k ∧ k < 107) ∨ k = 107 ∨ k = 263 ∨ k = 264 ∨ k = 265 ∨ k = 266) s0 τ ∧ (((IC τ) ∧ True) ∧ (r = 0 ∨ r = 1)))) args s 0 0 (xA h0) := ⟨_, rfl⟩
  rw [← eQ]
  generalize hHe : ([] : List Loc) = locs at hW ⊢
  obtain ⟨H, eH⟩ : ∃ H, H = s.heap := ⟨_, rfl⟩
  rw [← eH] at hW ⊢
  have hF : xFr (fun k => (7 ≤ k ∧ k < 107) ∨ k = 107 ∨ k = 263 ∨ k = 264 ∨ k = 265 ∨ k = 266) s0 s0 := xFr.rf
  have hbd : (136 ≤ d ∧ d < 209) ∧ (d ≤ 146 ∨ 158 ≤ d) := by unfold xDay at hd; omega
  have k1_1 : s0 1 1 = s0 1 1 := rfl
  refine x_iconst hx hb dX1_findsPlace_0 ?_
  refine lv_istore_n (lv' := [(3, .int (xJ 0)), (0, .ref (h0 + 261)), (1, .ref (h0 + d)), (2, .int (xJ f))]) hx hb dX1_findsPlace_1 rfl hl (by decide) rfl (fun ls hl => ?_)
  have L2 : ∀ (fu : Nat) (i3_2 : Int) (s_2 : xS) (H : Heap) (locs : List Loc) (ls : Array Slot), (xR i3_2) → (xFr (fun k => (7 ≤ k ∧ k < 107) ∨ k = 107 ∨ k = 263 ∨ k = 264 ∨ k = 265 ∨ k = 266) s0 s_2) → (IC s_2) → (s_2 1 1 = s0 1 1) → (0 ≤ i3_2) → (i3_2 ≤ 100) → (100 + 1 - i3_2).toNat < fu → xW D g h0 s H locs s_2 → lv_has ls 8 [(0, .ref (h0 + 261)), (1, .ref (h0 + d)), (2, .int (xJ f)), (3, .int (xJ i3_2))] → W p l e { frames := 4, cells := 0, slots := 0, locals := 96 } s m args below meth c H locs 0 0 Q (F0 m 2 ls []) := by
    intro fu
    induction fu with
    | zero => intro i3_2 s_2 H locs ls ri3_2 hF_2 q2_0 q2_1 v2_0 v2_1 hm; exact absurd hm (Nat.not_lt_zero _)
    | succ fu ih2 =>
      intro i3_2 s_2 H locs ls ri3_2 hF_2 q2_0 q2_1 v2_0 v2_1 hm hW hl
      refine x_iload_n hx hb hl 3 rfl dX1_findsPlace_2 rfl ?_
      refine x_bipush hx hb dX1_findsPlace_3 (by decide) ?_
      refine x_icmp_ge (tgt := 21) hx hb ri3_2 (by decide) dX1_findsPlace_5 (by decide) (fun c1 => ?_) (fun c1 => ?_)
      · skip
        refine x_aload_n hx hb hl 0 rfl dX1_findsPlace_21 rfl ?_
        refine x_get (j := 5) (v := .ref (h0 + 266)) hx hb hown hT hE hW cls_X1 (Or.inl (by decide)) (so_261 h0 g _) (by decide) rfl wq498 dX1_findsPlace_22 ?_
        refine x_iconst hx hb dX1_findsPlace_25 ?_
        refine x_iload_n hx hb hl 2 rfl dX1_findsPlace_26 rfl ?_
        refine x_iast hx hb hE hW (by decide) (fun σ => sa_266 h0 g σ) ⟨by decide, by decide⟩ (by decide) rf dX1_findsPlace_27 (fun H locs s2 es2 hW => ?_)
        have q3 : IC s2 := by rw [es2]; exact IC_o (by decide) q2_0
        have q4 : s2 1 1 = s0 1 1 := (show s2 1 1 = s_2 1 1 from by rw [es2, xU_k _ _ _ (by omega)]).trans q2_1
        have hF5 := hF_2.put es2 (by omega)
        refine x_iconst hx hb dX1_findsPlace_28 ?_
        refine lv_istore_n (lv' := [(3, .int (xJ 1)), (0, .ref (h0 + 261)), (1, .ref (h0 + d)), (2, .int (xJ f))]) hx hb dX1_findsPlace_29 rfl hl (by decide) rfl (fun ls hl => ?_)
        refine x_iconst hx hb dX1_findsPlace_30 ?_
        refine lv_istore (lv' := [(4, .int (xJ 0)), (3, .int (xJ 1)), (0, .ref (h0 + 261)), (1, .ref (h0 + d)), (2, .int (xJ f))]) hx hb dX1_findsPlace_31 hl (by decide) rfl (fun ls hl => ?_)
        have L33 : ∀ (fu : Nat) (i3_33 : Int) (i4_33 : Int) (s_33 : xS) (H : Heap) (locs : List Loc) (ls : Array Slot), (xR i3_33) → (xR i4_33) → (xFr (fun k => (7 ≤ k ∧ k < 107) ∨ k = 107 ∨ k = 263 ∨ k = 264 ∨ k = 265 ∨ k = 266) s0 s_33) → (IC s_33) → (s_33 1 1 = s0 1 1) → (0 ≤ i4_33) → (0 ≤ i3_33) → (10 - i4_33).toNat < fu → xW D g h0 s H locs s_33 → lv_has ls 8 [(0, .ref (h0 + 261)), (1, .ref (h0 + d)), (3, .int (xJ i3_33)), (4, .int (xJ i4_33))] → W p l e { frames := 4, cells := 0, slots := 0, locals := 96 } s m args below meth c H locs 0 0 Q (F0 m 33 ls []) := by
          intro fu
          induction fu with
          | zero => intro i3_33 i4_33 s_33 H locs ls ri3_33 ri4_33 hF_33 q33_0 q33_1 v33_0 v33_1 hm; exact absurd hm (Nat.not_lt_zero _)
          | succ fu ih33 =>
            intro i3_33 i4_33 s_33 H locs ls ri3_33 ri4_33 hF_33 q33_0 q33_1 v33_0 v33_1 hm hW hl
            refine x_iload hx hb hl 3 rfl dX1_findsPlace_33 ?_
            refine x_iload_n hx hb hl 2 rfl dX1_findsPlace_35 rfl ?_
            refine x_icmp_ge (tgt := 183) hx hb ri4_33 ri3_33 dX1_findsPlace_36 (by decide) (fun c6 => ?_) (fun c6 => ?_)
            · skip
              refine x_iconst hx hb dX1_findsPlace_183 ?_
              rw [eQ]
              exact x_zret hx hb hr hlk hW (by omega) ⟨hF_33, ⟨q33_0, trivial⟩, by omega⟩ dX1_findsPlace_184
            refine x_iload hx hb hl 3 rfl dX1_findsPlace_39 ?_
            refine x_bipush hx hb dX1_findsPlace_41 (by decide) ?_
            refine x_icmp_ge (tgt := 183) hx hb ri4_33 (by decide) dX1_findsPlace_43 (by decide) (fun c7 => ?_) (fun c7 => ?_)
            · skip
              refine x_iconst hx hb dX1_findsPlace_183 ?_
              rw [eQ]
              exact x_zret hx hb hr hlk hW (by omega) ⟨hF_33, ⟨q33_0, trivial⟩, by omega⟩ dX1_findsPlace_184
            refine x_aload_n hx hb hl 0 rfl dX1_findsPlace_46 rfl ?_
            refine x_get (j := 5) (v := .ref (h0 + 266)) hx hb hown hT hE hW cls_X1 (Or.inl (by decide)) (so_261 h0 g _) (by decide) rfl wq498 dX1_findsPlace_47 ?_
            refine x_iload hx hb hl 3 rfl dX1_findsPlace_50 ?_
            refine x_iald hx hb hE hW (Or.inl (by decide)) (sa_266 h0 g _) (by omega) (by decide) dX1_findsPlace_52 ?_
            refine x_rd hW (fun x8 ex8 rx8 => ?_)
            refine lv_istore (lv' := [(5, .int (xJ x8)), (0, .ref (h0 + 261)), (1, .ref (h0 + d)), (3, .int (xJ i3_33)), (4, .int (xJ i4_33))]) hx hb dX1_findsPlace_53 hl (by decide) rfl (fun ls hl => ?_)
            refine x_iconst hx hb dX1_findsPlace_55 ?_
            refine lv_istore (lv' := [(6, .int (xJ 0)), (5, .int (xJ x8)), (0, .ref (h0 + 261)), (1, .ref (h0 + d)), (3, .int (xJ i3_33)), (4, .int (xJ i4_33))]) hx hb dX1_findsPlace_56 hl (by decide) rfl (fun ls hl => ?_)
            have L58 : ∀ (fu : Nat) (i3_58 : Int) (i6_58 : Int) (s_58 : xS) (H : Heap) (locs : List Loc) (ls : Array Slot), (xR i3_58) → (xR i6_58) → (xFr (fun k => (7 ≤ k ∧ k < 107) ∨ k = 107 ∨ k = 263 ∨ k = 264 ∨ k = 265 ∨ k = 266) s0 s_58) → (IC s_58) → (s_58 1 1 = s0 1 1) → (0 ≤ i6_58) → (0 ≤ i3_58) → (100 - i6_58).toNat < fu → xW D g h0 s H locs s_58 → lv_has ls 8 [(0, .ref (h0 + 261)), (1, .ref (h0 + d)), (3, .int (xJ i3_58)), (4, .int (xJ i4_33)), (5, .int (xJ x8)), (6, .int (xJ i6_58))] → W p l e { frames := 4, cells := 0, slots := 0, locals := 96 } s m args below meth c H locs 0 0 Q (F0 m 58 ls []) := by
              intro fu
              induction fu with
              | zero => intro i3_58 i6_58 s_58 H locs ls ri3_58 ri6_58 hF_58 q58_0 q58_1 v58_0 v58_1 hm; exact absurd hm (Nat.not_lt_zero _)
              | succ fu ih58 =>
                intro i3_58 i6_58 s_58 H locs ls ri3_58 ri6_58 hF_58 q58_0 q58_1 v58_0 v58_1 hm hW hl
                refine x_iload hx hb hl 5 rfl dX1_findsPlace_58 ?_
                refine x_aload_n hx hb hl 0 rfl dX1_findsPlace_60 rfl ?_
                refine x_get (j := 0) (v := .ref (h0 + 128)) hx hb hown hT hE hW cls_X1 (Or.inl (by decide)) (so_261 h0 g _) (by decide) rfl wq493 dX1_findsPlace_61 ?_
                refine x_getN (j := 3) (v := .ref (h0 + 130)) hx hb hown hT hE hW cls_X0 (Or.inl (by decide)) (so_128 h0 g _) (by decide) rfl wn358 dX1_findsPlace_64 ?_
                refine x_getN (j := 3) (v := .int (xJ (s_58 130 3))) hx hb hown hT hE hW cls_X7 (Or.inl (by decide)) (so_130 h0 g _) (by decide) rfl wn338 dX1_findsPlace_67 ?_
                refine x_rd hW (fun x9 ex9 rx9 => ?_)
                have bx9 : 0 ≤ x9 ∧ x9 ≤ 100 := by rw [ex9]; exact IC.z q58_0
                refine x_icmp_ge (tgt := 177) hx hb ri6_58 rx9 dX1_findsPlace_70 (by decide) (fun c10 => ?_) (fun c10 => ?_)
                · skip
                  refine x_iinc (lv' := [(4, .int (xJ (i4_33 + 1))), (0, .ref (h0 + 261)), (1, .ref (h0 + d)), (3, .int (xJ i3_58)), (5, .int (xJ x8)), (6, .int (xJ i6_58))]) hx hb hl 3 rfl dX1_findsPlace_177 (by decide) rfl (fun ls hl => ?_)
                  refine lv_goto (tgt := 33) hx hb dX1_findsPlace_180 (by decide) ?_
                  exact ih33 i3_58 (i4_33 + 1) s_58 H locs ls ri3_58 (by omega) hF_58 q58_0 q58_1 (by omega) (by omega) (by omega) hW (lv_sub hl [1, 2, 3, 0] rfl)
                refine x_iload hx hb hl 5 rfl dX1_findsPlace_73 ?_
                refine x_bipush hx hb dX1_findsPlace_75 (by decide) ?_
                refine x_icmp_ge (tgt := 177) hx hb ri6_58 (by decide) dX1_findsPlace_77 (by decide) (fun c11 => ?_) (fun c11 => ?_)
                · skip
                  refine x_iinc (lv' := [(4, .int (xJ (i4_33 + 1))), (0, .ref (h0 + 261)), (1, .ref (h0 + d)), (3, .int (xJ i3_58)), (5, .int (xJ x8)), (6, .int (xJ i6_58))]) hx hb hl 3 rfl dX1_findsPlace_177 (by decide) rfl (fun ls hl => ?_)
                  refine lv_goto (tgt := 33) hx hb dX1_findsPlace_180 (by decide) ?_
                  exact ih33 i3_58 (i4_33 + 1) s_58 H locs ls ri3_58 (by omega) hF_58 q58_0 q58_1 (by omega) (by omega) (by omega) hW (lv_sub hl [1, 2, 3, 0] rfl)
                refine x_aload_n hx hb hl 0 rfl dX1_findsPlace_80 rfl ?_
                refine x_get (j := 0) (v := .ref (h0 + 128)) hx hb hown hT hE hW cls_X1 (Or.inl (by decide)) (so_261 h0 g _) (by decide) rfl wq493 dX1_findsPlace_81 ?_
                refine x_getN (j := 3) (v := .ref (h0 + 130)) hx hb hown hT hE hW cls_X0 (Or.inl (by decide)) (so_128 h0 g _) (by decide) rfl wn358 dX1_findsPlace_84 ?_
                refine x_getN (j := 1) (v := .ref (h0 + 132)) hx hb hown hT hE hW cls_X7 (Or.inl (by decide)) (so_130 h0 g _) (by decide) rfl wn332 dX1_findsPlace_87 ?_
                refine x_iload hx hb hl 5 rfl dX1_findsPlace_90 ?_
                refine x_iald hx hb hE hW (Or.inl (by decide)) (sa_132 h0 g _) (by omega) (by decide) dX1_findsPlace_92 ?_
                refine x_rd hW (fun x12 ex12 rx12 => ?_)
                refine lv_istore (lv' := [(7, .int (xJ x12)), (0, .ref (h0 + 261)), (1, .ref (h0 + d)), (3, .int (xJ i3_58)), (4, .int (xJ i4_33)), (5, .int (xJ x8)), (6, .int (xJ i6_58))]) hx hb dX1_findsPlace_93 hl (by decide) rfl (fun ls hl => ?_)
                refine x_aload_n hx hb hl 1 rfl dX1_findsPlace_95 rfl ?_
                refine x_aload_n hx hb hl 2 rfl dX1_findsPlace_96 rfl ?_
                refine x_iload hx hb hl 5 rfl dX1_findsPlace_97 ?_
                refine x_iload hx hb hl 0 rfl dX1_findsPlace_99 ?_
                refine x_goi (x_runV (As := [.ref (h0 + d), .int (xJ x8), .int (xJ x12)]) hx hb hml hown hT hE hW hl.1 (Or.inl (by decide)) (so_261 h0 g _) rfl cf_X1_canGo wq967 wq72 wq965 (c_X1_canGo l D g T h0 s_58 hW.2.1 d hd x8 rx8 x12 rx12 q58_0) ⟨rfl, rfl, ⟨by decide, by decide⟩, ⟨by decide, by decide⟩⟩ rfl rfl (Nat.le_of_ble_eq_true rfl) dX1_findsPlace_101) hW (fun x13 s14 H locs rx13 hp15 hW => ?_)
                obtain ⟨fs14, hp15⟩ := hp15
                have hF16 := hF_58.call fs14 (fun k h => by omega)
                have q17 : s14 1 1 = s0 1 1 := (congrFun (fs14 _ (by omega)) _).trans q58_1
                have ghp15 := hp15.2
                have J171 : ∀ (i3_171 : Int) (s_171 : xS) (H : Heap) (locs : List Loc) (ls : Array Slot), (xR i3_171) → (xFr (fun k => (7 ≤ k ∧ k < 107) ∨ k = 107 ∨ k = 263 ∨ k = 264 ∨ k = 265 ∨ k = 266) s0 s_171) → (s_171 1 1 = s0 1 1) → (IC s_171) → (0 ≤ i3_171) → xW D g h0 s H locs s_171 → lv_has ls 8 [(0, .ref (h0 + 261)), (1, .ref (h0 + d)), (3, .int (xJ i3_171)), (4, .int (xJ i4_33)), (5, .int (xJ x8)), (6, .int (xJ i6_58))] → W p l e { frames := 4, cells := 0, slots := 0, locals := 96 } s m args below meth c H locs 0 0 Q (F0 m 171 ls []) := by
                  intro i3_171 s_171 H locs ls ri3_171 hF_171 q171_0 q171_1 v171_0 hW hl
                  refine x_iinc (lv' := [(6, .int (xJ (i6_58 + 1))), (0, .ref (h0 + 261)), (1, .ref (h0 + d)), (3, .int (xJ i3_171)), (4, .int (xJ i4_33)), (5, .int (xJ x8))]) hx hb hl 5 rfl dX1_findsPlace_171 (by decide) rfl (fun ls hl => ?_)
                  refine lv_goto (tgt := 58) hx hb dX1_findsPlace_174 (by decide) ?_
                  exact ih58 i3_171 (i6_58 + 1) s_171 H locs ls ri3_171 (by omega) hF_171 q171_1 q171_0 (by omega) (by omega) (by omega) hW (lv_sub hl [1, 2, 3, 4, 5, 0] rfl)
                refine x_if_eq (tgt := 171) hx hb rx13 dX1_findsPlace_104 (by decide) (fun c18 => ?_) (fun c18 => ?_)
                · skip
                  exact J171 i3_58 s14 H locs ls ri3_58 hF16 q17 hp15.1.1 (by omega) hW (lv_sub hl [1, 2, 3, 4, 5, 6] rfl)
                refine x_aload_n hx hb hl 1 rfl dX1_findsPlace_107 rfl ?_
                refine x_get (j := 4) (v := .ref (h0 + 265)) hx hb hown hT hE hW cls_X1 (Or.inl (by decide)) (so_261 h0 g _) (by decide) rfl wq497 dX1_findsPlace_108 ?_
                refine x_iload hx hb hl 0 rfl dX1_findsPlace_111 ?_
                refine x_iald hx hb hE hW (Or.inl (by decide)) (sa_265 h0 g _) (by omega) (by decide) dX1_findsPlace_113 ?_
                refine x_rd hW (fun x19 ex19 rx19 => ?_)
                refine x_iconst hx hb dX1_findsPlace_114 ?_
                refine x_icmp_eq (tgt := 121) hx hb rx19 (by decide) dX1_findsPlace_115 (by decide) (fun c20 => ?_) (fun c20 => ?_)
                · skip
                  refine x_aload_n hx hb hl 1 rfl dX1_findsPlace_121 rfl ?_
                  refine x_get (j := 4) (v := .ref (h0 + 265)) hx hb hown hT hE hW cls_X1 (Or.inl (by decide)) (so_261 h0 g _) (by decide) rfl wq497 dX1_findsPlace_122 ?_
                  refine x_iload hx hb hl 0 rfl dX1_findsPlace_125 ?_
                  refine x_iload hx hb hl 5 rfl dX1_findsPlace_127 ?_
                  refine x_iast hx hb hE hW (by decide) (fun σ => sa_265 h0 g σ) (by omega) (by decide) rx8 dX1_findsPlace_129 (fun H locs s21 es21 hW => ?_)
                  have q22 : s21 1 1 = s0 1 1 := (show s21 1 1 = s14 1 1 from by rw [es21, xU_k _ _ _ (by omega)]).trans q17
                  have q23 : IC s21 := by rw [es21]; exact IC_o (by decide) hp15.1.1
                  have hF24 := hF16.put es21 (by omega)
                  refine x_aload_n hx hb hl 1 rfl dX1_findsPlace_130 rfl ?_
                  refine x_get (j := 3) (v := .ref (h0 + 264)) hx hb hown hT hE hW cls_X1 (Or.inl (by decide)) (so_261 h0 g _) (by decide) rfl wq496 dX1_findsPlace_131 ?_
                  refine x_iload hx hb hl 0 rfl dX1_findsPlace_134 ?_
                  refine x_iald hx hb hE hW (Or.inl (by decide)) (sa_264 h0 g _) (by omega) (by decide) dX1_findsPlace_136 ?_
                  refine x_rd hW (fun x25 ex25 rx25 => ?_)
                  refine x_iconst hx hb dX1_findsPlace_137 ?_
                  refine x_icmp_ne (tgt := 149) hx hb rx25 (by decide) dX1_findsPlace_138 (by decide) (fun c26 => ?_) (fun c26 => ?_)
                  · skip
                    refine x_iload_n hx hb hl 3 rfl dX1_findsPlace_149 rfl ?_
                    refine x_bipush hx hb dX1_findsPlace_150 (by decide) ?_
                    refine x_icmp_ge (tgt := 171) hx hb ri3_58 (by decide) dX1_findsPlace_152 (by decide) (fun c27 => ?_) (fun c27 => ?_)
                    · skip
                      exact J171 i3_58 s21 H locs ls ri3_58 hF24 q22 q23 (by omega) hW (lv_sub hl [1, 2, 3, 4, 5, 6] rfl)
                    refine x_aload_n hx hb hl 1 rfl dX1_findsPlace_155 rfl ?_
                    refine x_get (j := 5) (v := .ref (h0 + 266)) hx hb hown hT hE hW cls_X1 (Or.inl (by decide)) (so_261 h0 g _) (by decide) rfl wq498 dX1_findsPlace_156 ?_
                    refine x_iload_n hx hb hl 3 rfl dX1_findsPlace_159 rfl ?_
                    refine x_aload_n hx hb hl 1 rfl dX1_findsPlace_160 rfl ?_
                    refine x_get (j := 3) (v := .ref (h0 + 264)) hx hb hown hT hE hW cls_X1 (Or.inl (by decide)) (so_261 h0 g _) (by decide) rfl wq496 dX1_findsPlace_161 ?_
                    refine x_iload hx hb hl 0 rfl dX1_findsPlace_164 ?_
                    refine x_iald hx hb hE hW (Or.inl (by decide)) (sa_264 h0 g _) (by omega) (by decide) dX1_findsPlace_166 ?_
                    refine x_rd hW (fun x28 ex28 rx28 => ?_)
                    refine x_iast hx hb hE hW (by decide) (fun σ => sa_266 h0 g σ) (by omega) (by decide) rx28 dX1_findsPlace_167 (fun H locs s29 es29 hW => ?_)
                    have q30 : s29 1 1 = s0 1 1 := (show s29 1 1 = s21 1 1 from by rw [es29, xU_k _ _ _ (by omega)]).trans q22
                    have q31 : IC s29 := by rw [es29]; exact IC_o (by decide) q23
                    have hF32 := hF24.put es29 (by omega)
                    refine x_iinc (lv' := [(3, .int (xJ (i3_58 + 1))), (7, .int (xJ x12)), (0, .ref (h0 + 261)), (1, .ref (h0 + d)), (4, .int (xJ i4_33)), (5, .int (xJ x8)), (6, .int (xJ i6_58))]) hx hb hl 3 rfl dX1_findsPlace_168 (by decide) rfl (fun ls hl => ?_)
                    exact J171 (i3_58 + 1) s29 H locs ls (by omega) hF32 q30 q31 (by omega) hW (lv_sub hl [2, 3, 0, 4, 5, 6] rfl)
                  refine x_aload_n hx hb hl 1 rfl dX1_findsPlace_141 rfl ?_
                  refine x_iload hx hb hl 0 rfl dX1_findsPlace_142 ?_
                  refine x_gov (x_runV (As := [.int (xJ x12)]) hx hb hml hown hT hE hW hl.1 (Or.inl (by decide)) (so_261 h0 g _) rfl cf_X1_handOn wq974 wq73 wq972 (c_X1_handOn l D g T h0 s21 hW.2.1 x12 rx12 q23) ⟨rfl, rfl, ⟨by decide, by decide⟩, ⟨by decide, by decide⟩⟩ rfl rfl (Nat.le_of_ble_eq_true rfl) dX1_findsPlace_144) hW (fun s34 H locs hp35 hW => ?_)
                  obtain ⟨fs34, hp35⟩ := hp35
                  have hF36 := hF24.call fs34 (fun k h => by omega)
                  have q37 : s34 1 1 = s0 1 1 := (congrFun (fs34 _ (by omega)) _).trans q22
                  have ghp35 := hp35.2
                  refine x_iconst hx hb dX1_findsPlace_147 ?_
                  rw [eQ]
                  exact x_zret hx hb hr hlk hW (by omega) ⟨hF36, ⟨hp35.1.1, trivial⟩, by omega⟩ dX1_findsPlace_148
                refine lv_goto (tgt := 171) hx hb dX1_findsPlace_118 (by decide) ?_
                exact J171 i3_58 s14 H locs ls ri3_58 hF16 q17 hp15.1.1 (by omega) hW (lv_sub hl [1, 2, 3, 4, 5, 6] rfl)
            exact L58 ((100 - 0 : Int).toNat + 1) i3_33 0 s_33 H locs ls ri3_33 (by decide) hF_33 q33_0 q33_1 (by omega) (by omega) (Nat.lt_succ_self _) hW (lv_sub hl [2, 3, 4, 5, 1, 0] rfl)
        exact L33 ((10 - 0 : Int).toNat + 1) 1 0 s2 H locs ls (by decide) (by decide) hF5 q3 q4 (by omega) (by omega) (Nat.lt_succ_self _) hW (lv_sub hl [2, 3, 1, 0] rfl)
      refine x_aload_n hx hb hl 0 rfl dX1_findsPlace_8 rfl ?_
      refine x_get (j := 4) (v := .ref (h0 + 265)) hx hb hown hT hE hW cls_X1 (Or.inl (by decide)) (so_261 h0 g _) (by decide) rfl wq497 dX1_findsPlace_9 ?_
      refine x_iload_n hx hb hl 3 rfl dX1_findsPlace_12 rfl ?_
      refine x_iconst hx hb dX1_findsPlace_13 ?_
      refine x_iast hx hb hE hW (by decide) (fun σ => sa_265 h0 g σ) (by omega) (by decide) (by decide) dX1_findsPlace_14 (fun H locs s38 es38 hW => ?_)
      have q39 : IC s38 := by rw [es38]; exact IC_o (by decide) q2_0
      have q40 : s38 1 1 = s0 1 1 := (show s38 1 1 = s_2 1 1 from by rw [es38, xU_k _ _ _ (by omega)]).trans q2_1
      have hF41 := hF_2.put es38 (by omega)
      refine x_iinc (lv' := [(3, .int (xJ (i3_2 + 1))), (0, .ref (h0 + 261)), (1, .ref (h0 + d)), (2, .int (xJ f))]) hx hb hl 3 rfl dX1_findsPlace_15 (by decide) rfl (fun ls hl => ?_)
      refine lv_goto (tgt := 2) hx hb dX1_findsPlace_18 (by decide) ?_
      exact ih2 (i3_2 + 1) s38 H locs ls (by omega) hF41 q39 q40 (by omega) (by omega) (by omega) hW (lv_sub hl [1, 2, 3, 0] rfl)
  exact L2 ((100 + 1 - 0 : Int).toNat + 1) 0 s0 H locs ls (by decide) hF p0 k1_1 (by omega) (by omega) (Nat.lt_succ_self _) hW (lv_sub hl [1, 2, 3, 0] rfl)
set_option maxHeartbeats 4000000 in
set_option maxRecDepth 100000 in
theorem c_X1_most (l : Launch) (D : va_G) (g : xG) (T : Nat × Nat × Nat) (h0 : Nat) (s0 : xS) (hσ : xRR s0) (d : Nat) (hd : xDay d) (p0 : IC s0) : Met l yX1_most (xws yX1_most cX1_most 4 (some .int)) { frames := 5, cells := 0, slots := 0, locals := 123 } (xP [.ref (h0 + 261), .ref (h0 + d)] D g T h0 s0) (xQi D g h0 (fun r τ => xFr (fun k => (7 ≤ k ∧ k < 107) ∨ k = 107 ∨ k = 115 ∨ k = 116 ∨ k = 262 ∨ k = 263 ∨ k = 264 ∨ k = 265 ∨ k = 266) s0 τ ∧ (((IC τ) ∧ True) ∧ (True)))) 0 0 (xA h0) := by
  refine x_met hσ (by decide) (Nat.le_of_ble_eq_true rfl) ?_
  intro p e s m args below meth c hx hb hr hml hown hT hlk hnm hE hW ls hl
  have hl : lv_has ls 4 [(0, .ref (h0 + 261)), (1, .ref (h0 + d))] := hl
  obtain ⟨Q, eQ⟩ : ∃ Q, Q = MQ below (xQi D g h0 (fun r τ => xFr (fun k => (7 ≤ k ∧ k < 107) ∨ k = 107 ∨ k = 115 ∨ k = 116 ∨ k = 262 ∨ k = 263 ∨ k = 264 ∨ k = 265 ∨ k = 266) s0 τ ∧ (((IC τ) ∧ True) ∧ (True)))) args s 0 0 (xA h0) := ⟨_, rfl⟩
  rw [← eQ]
  generalize hHe : ([] : List Loc) = locs at hW ⊢
  obtain ⟨H, eH⟩ : ∃ H, H = s.heap := ⟨_, rfl⟩
  rw [← eH] at hW ⊢
  have hF : xFr (fun k => (7 ≤ k ∧ k < 107) ∨ k = 107 ∨ k = 115 ∨ k = 116 ∨ k = 262 ∨ k = 263 ∨ k = 264 ∨ k = 265 ∨ k = 266) s0 s0 := xFr.rf
  have hbd : (136 ≤ d ∧ d < 209) ∧ (d ≤ 146 ∨ 158 ≤ d) := by unfold xDay at hd; omega
  have k1_1 : s0 1 1 = s0 1 1 := rfl
  refine x_iconst hx hb dX1_most_0 ?_
  refine lv_istore_n (lv' := [(2, .int (xJ 0)), (0, .ref (h0 + 261)), (1, .ref (h0 + d))]) hx hb dX1_most_1 rfl hl (by decide) rfl (fun ls hl => ?_)
  have L2 : ∀ (fu : Nat) (i2_2 : Int) (s_2 : xS) (H : Heap) (locs : List Loc) (ls : Array Slot), (xR i2_2) → (xFr (fun k => (7 ≤ k ∧ k < 107) ∨ k = 107 ∨ k = 115 ∨ k = 116 ∨ k = 262 ∨ k = 263 ∨ k = 264 ∨ k = 265 ∨ k = 266) s0 s_2) → (IC s_2) → (s_2 1 1 = s0 1 1) → (0 ≤ i2_2) → (i2_2 ≤ 100) → (100 + 1 - i2_2).toNat < fu → xW D g h0 s H locs s_2 → lv_has ls 4 [(0, .ref (h0 + 261)), (1, .ref (h0 + d)), (2, .int (xJ i2_2))] → W p l e { frames := 5, cells := 0, slots := 0, locals := 123 } s m args below meth c H locs 0 0 Q (F0 m 2 ls []) := by
    intro fu
    induction fu with
    | zero => intro i2_2 s_2 H locs ls ri2_2 hF_2 q2_0 q2_1 v2_0 v2_1 hm; exact absurd hm (Nat.not_lt_zero _)
    | succ fu ih2 =>
      intro i2_2 s_2 H locs ls ri2_2 hF_2 q2_0 q2_1 v2_0 v2_1 hm hW hl
      refine x_iload_n hx hb hl 2 rfl dX1_most_2 rfl ?_
      refine x_bipush hx hb dX1_most_3 (by decide) ?_
      refine x_icmp_ge (tgt := 21) hx hb ri2_2 (by decide) dX1_most_5 (by decide) (fun c1 => ?_) (fun c1 => ?_)
      · skip
        refine x_iconst hx hb dX1_most_21 ?_
        refine lv_istore_n (lv' := [(2, .int (xJ 0)), (0, .ref (h0 + 261)), (1, .ref (h0 + d))]) hx hb dX1_most_22 rfl hl (by decide) rfl (fun ls hl => ?_)
        have L23 : ∀ (fu : Nat) (i2_23 : Int) (s_23 : xS) (H : Heap) (locs : List Loc) (ls : Array Slot), (xR i2_23) → (xFr (fun k => (7 ≤ k ∧ k < 107) ∨ k = 107 ∨ k = 115 ∨ k = 116 ∨ k = 262 ∨ k = 263 ∨ k = 264 ∨ k = 265 ∨ k = 266) s0 s_23) → (IC s_23) → (s_23 1 1 = s0 1 1) → (0 ≤ i2_23) → (i2_23 ≤ 10) → (10 + 1 - i2_23).toNat < fu → xW D g h0 s H locs s_23 → lv_has ls 4 [(0, .ref (h0 + 261)), (1, .ref (h0 + d)), (2, .int (xJ i2_23))] → W p l e { frames := 5, cells := 0, slots := 0, locals := 123 } s m args below meth c H locs 0 0 Q (F0 m 23 ls []) := by
          intro fu
          induction fu with
          | zero => intro i2_23 s_23 H locs ls ri2_23 hF_23 q23_0 q23_1 v23_0 v23_1 hm; exact absurd hm (Nat.not_lt_zero _)
          | succ fu ih23 =>
            intro i2_23 s_23 H locs ls ri2_23 hF_23 q23_0 q23_1 v23_0 v23_1 hm hW hl
            refine x_iload_n hx hb hl 2 rfl dX1_most_23 rfl ?_
            refine x_bipush hx hb dX1_most_24 (by decide) ?_
            refine x_icmp_ge (tgt := 69) hx hb ri2_23 (by decide) dX1_most_26 (by decide) (fun c2 => ?_) (fun c2 => ?_)
            · skip
              refine x_iconst hx hb dX1_most_69 ?_
              refine lv_istore_n (lv' := [(2, .int (xJ 0)), (0, .ref (h0 + 261)), (1, .ref (h0 + d))]) hx hb dX1_most_70 rfl hl (by decide) rfl (fun ls hl => ?_)
              refine x_iconst hx hb dX1_most_71 ?_
              refine lv_istore_n (lv' := [(3, .int (xJ 0)), (2, .int (xJ 0)), (0, .ref (h0 + 261)), (1, .ref (h0 + d))]) hx hb dX1_most_72 rfl hl (by decide) rfl (fun ls hl => ?_)
              have L73 : ∀ (fu : Nat) (i2_73 : Int) (i3_73 : Int) (s_73 : xS) (H : Heap) (locs : List Loc) (ls : Array Slot), (xR i2_73) → (xR i3_73) → (xFr (fun k => (7 ≤ k ∧ k < 107) ∨ k = 107 ∨ k = 115 ∨ k = 116 ∨ k = 262 ∨ k = 263 ∨ k = 264 ∨ k = 265 ∨ k = 266) s0 s_73) → (IC s_73) → (s_73 1 1 = s0 1 1) → (0 ≤ i3_73) → (i3_73 ≤ 10) → (0 ≤ i2_73 ∧ i2_73 ≤ i3_73) → (10 + 1 - i3_73).toNat < fu → xW D g h0 s H locs s_73 → lv_has ls 4 [(0, .ref (h0 + 261)), (1, .ref (h0 + d)), (2, .int (xJ i2_73)), (3, .int (xJ i3_73))] → W p l e { frames := 5, cells := 0, slots := 0, locals := 123 } s m args below meth c H locs 0 0 Q (F0 m 73 ls []) := by
                intro fu
                induction fu with
                | zero => intro i2_73 i3_73 s_73 H locs ls ri2_73 ri3_73 hF_73 q73_0 q73_1 v73_0 v73_1 v73_2 hm; exact absurd hm (Nat.not_lt_zero _)
                | succ fu ih73 =>
                  intro i2_73 i3_73 s_73 H locs ls ri2_73 ri3_73 hF_73 q73_0 q73_1 v73_0 v73_1 v73_2 hm hW hl
                  refine x_iload_n hx hb hl 3 rfl dX1_most_73 rfl ?_
                  refine x_bipush hx hb dX1_most_74 (by decide) ?_
                  refine x_icmp_ge (tgt := 105) hx hb ri3_73 (by decide) dX1_most_76 (by decide) (fun c3 => ?_) (fun c3 => ?_)
                  · skip
                    refine x_iload_n hx hb hl 2 rfl dX1_most_105 rfl ?_
                    rw [eQ]
                    exact x_iret hx hb hr hlk hW ri2_73 ⟨hF_73, ⟨q73_0, trivial⟩, trivial⟩ dX1_most_106
                  refine x_aload_n hx hb hl 1 rfl dX1_most_79 rfl ?_
                  refine x_iload_n hx hb hl 3 rfl dX1_most_80 rfl ?_
                  refine x_goi (x_runVN (As := [.int (xJ i3_73)]) hx hb hml hown hT hE hW hl.1 (Or.inl (by omega)) (so_day0 h0 g hd _) rfl cf_X2_mustServe wq858 wq52 wn959 (c_X2_mustServe l D g T h0 s_73 hW.2.1 d hd i3_73 ri3_73 q73_0) ⟨rfl, rfl, ⟨by decide, by decide⟩, ⟨by decide, by decide⟩⟩ rfl rfl (Nat.le_of_ble_eq_true rfl) dX1_most_81) hW (fun x4 s5 H locs rx4 hp6 hW => ?_)
                  obtain ⟨es5, hp6⟩ := hp6
                  subst es5
                  have ghp6 := hp6
                  refine x_if_eq (tgt := 99) hx hb rx4 dX1_most_84 (by decide) (fun c7 => ?_) (fun c7 => ?_)
                  · skip
                    refine x_iinc (lv' := [(3, .int (xJ (i3_73 + 1))), (0, .ref (h0 + 261)), (1, .ref (h0 + d)), (2, .int (xJ i2_73))]) hx hb hl 3 rfl dX1_most_99 (by decide) rfl (fun ls hl => ?_)
                    refine lv_goto (tgt := 73) hx hb dX1_most_102 (by decide) ?_
                    exact ih73 i2_73 (i3_73 + 1) s_73 H locs ls ri2_73 (by omega) hF_73 q73_0 q73_1 (by omega) (by omega) (by omega) (by omega) hW (lv_sub hl [1, 2, 3, 0] rfl)
                  refine x_aload_n hx hb hl 0 rfl dX1_most_87 rfl ?_
                  refine x_aload_n hx hb hl 1 rfl dX1_most_88 rfl ?_
                  refine x_iload_n hx hb hl 3 rfl dX1_most_89 rfl ?_
                  refine x_goi (x_runV (As := [.ref (h0 + d), .int (xJ i3_73)]) hx hb hml hown hT hE hW hl.1 (Or.inl (by decide)) (so_261 h0 g _) rfl cf_X1_findsPlace wq963 wq71 wq961 (c_X1_findsPlace l D g T h0 s_73 hW.2.1 d hd i3_73 ri3_73 q73_0) ⟨rfl, rfl, ⟨by decide, by decide⟩, ⟨by decide, by decide⟩⟩ rfl rfl (Nat.le_of_ble_eq_true rfl) dX1_most_90) hW (fun x8 s9 H locs rx8 hp10 hW => ?_)
                  obtain ⟨fs9, hp10⟩ := hp10
                  have hF11 := hF_73.call fs9 (fun k h => by omega)
                  have q12 : s9 1 1 = s0 1 1 := (congrFun (fs9 _ (by omega)) _).trans q73_1
                  have ghp10 := hp10.2
                  refine x_if_eq (tgt := 99) hx hb rx8 dX1_most_93 (by decide) (fun c13 => ?_) (fun c13 => ?_)
                  · skip
                    refine x_iinc (lv' := [(3, .int (xJ (i3_73 + 1))), (0, .ref (h0 + 261)), (1, .ref (h0 + d)), (2, .int (xJ i2_73))]) hx hb hl 3 rfl dX1_most_99 (by decide) rfl (fun ls hl => ?_)
                    refine lv_goto (tgt := 73) hx hb dX1_most_102 (by decide) ?_
                    exact ih73 i2_73 (i3_73 + 1) s9 H locs ls ri2_73 (by omega) hF11 hp10.1.1 q12 (by omega) (by omega) (by omega) (by omega) hW (lv_sub hl [1, 2, 3, 0] rfl)
                  refine x_iinc (lv' := [(2, .int (xJ (i2_73 + 1))), (0, .ref (h0 + 261)), (1, .ref (h0 + d)), (3, .int (xJ i3_73))]) hx hb hl 2 rfl dX1_most_96 (by decide) rfl (fun ls hl => ?_)
                  refine x_iinc (lv' := [(3, .int (xJ (i3_73 + 1))), (2, .int (xJ (i2_73 + 1))), (0, .ref (h0 + 261)), (1, .ref (h0 + d))]) hx hb hl 3 rfl dX1_most_99 (by decide) rfl (fun ls hl => ?_)
                  refine lv_goto (tgt := 73) hx hb dX1_most_102 (by decide) ?_
                  exact ih73 (i2_73 + 1) (i3_73 + 1) s9 H locs ls (by omega) (by omega) hF11 hp10.1.1 q12 (by omega) (by omega) (by omega) (by omega) hW (lv_sub hl [2, 3, 1, 0] rfl)
              exact L73 ((10 + 1 - 0 : Int).toNat + 1) 0 0 s_23 H locs ls (by decide) (by decide) hF_23 q23_0 q23_1 (by omega) (by omega) (by omega) (Nat.lt_succ_self _) hW (lv_sub hl [2, 3, 1, 0] rfl)
            refine x_aload_n hx hb hl 0 rfl dX1_most_29 rfl ?_
            refine x_get (j := 2) (v := .ref (h0 + 263)) hx hb hown hT hE hW cls_X1 (Or.inl (by decide)) (so_261 h0 g _) (by decide) rfl wq495 dX1_most_30 ?_
            refine x_iload_n hx hb hl 2 rfl dX1_most_33 rfl ?_
            refine x_iconst hx hb dX1_most_34 ?_
            refine x_iast hx hb hE hW (by decide) (fun σ => sa_263 h0 g σ) (by omega) (by decide) (by decide) dX1_most_35 (fun H locs s14 es14 hW => ?_)
            have q15 : IC s14 := by rw [es14]; exact IC_o (by decide) q23_0
            have q16 : s14 1 1 = s0 1 1 := (show s14 1 1 = s_23 1 1 from by rw [es14, xU_k _ _ _ (by omega)]).trans q23_1
            have hF17 := hF_23.put es14 (by omega)
            refine x_aload_n hx hb hl 0 rfl dX1_most_36 rfl ?_
            refine x_get (j := 1) (v := .ref (h0 + 262)) hx hb hown hT hE hW cls_X1 (Or.inl (by decide)) (so_261 h0 g _) (by decide) rfl wq494 dX1_most_37 ?_
            refine x_iload_n hx hb hl 2 rfl dX1_most_40 rfl ?_
            refine x_aload_n hx hb hl 1 rfl dX1_most_41 rfl ?_
            refine x_iload_n hx hb hl 2 rfl dX1_most_42 rfl ?_
            refine x_goi (x_runVN (As := [.int (xJ i2_23)]) hx hb hml hown hT hE hW hl.1 (Or.inl (by omega)) (so_day0 h0 g hd _) rfl cf_X2_mustServe wq858 wq52 wn959 (c_X2_mustServe l D g T h0 s14 hW.2.1 d hd i2_23 ri2_23 q15) ⟨rfl, rfl, ⟨by decide, by decide⟩, ⟨by decide, by decide⟩⟩ rfl rfl (Nat.le_of_ble_eq_true rfl) dX1_most_43) hW (fun x18 s19 H locs rx18 hp20 hW => ?_)
            obtain ⟨es19, hp20⟩ := hp20
            subst es19
            have ghp20 := hp20
            refine x_if_eq (tgt := 61) hx hb rx18 dX1_most_46 (by decide) (fun c21 => ?_) (fun c21 => ?_)
            · skip
              refine x_iconst hx hb dX1_most_61 ?_
              refine x_iast hx hb hE hW (by decide) (fun σ => sa_262 h0 g σ) (by omega) (by decide) (by decide) dX1_most_62 (fun H locs s22 es22 hW => ?_)
              have q23 : IC s22 := by rw [es22]; exact IC_o (by decide) q15
              have q24 : s22 1 1 = s0 1 1 := (show s22 1 1 = s14 1 1 from by rw [es22, xU_k _ _ _ (by omega)]).trans q16
              have hF25 := hF17.put es22 (by omega)
              refine x_iinc (lv' := [(2, .int (xJ (i2_23 + 1))), (0, .ref (h0 + 261)), (1, .ref (h0 + d))]) hx hb hl 2 rfl dX1_most_63 (by decide) rfl (fun ls hl => ?_)
              refine lv_goto (tgt := 23) hx hb dX1_most_66 (by decide) ?_
              exact ih23 (i2_23 + 1) s22 H locs ls (by omega) hF25 q23 q24 (by omega) (by omega) (by omega) hW (lv_sub hl [1, 2, 0] rfl)
            refine x_aload_n hx hb hl 0 rfl dX1_most_49 rfl ?_
            refine x_get (j := 0) (v := .ref (h0 + 128)) hx hb hown hT hE hW cls_X1 (Or.inl (by decide)) (so_261 h0 g _) (by decide) rfl wq493 dX1_most_50 ?_
            refine x_aload_n hx hb hl 1 rfl dX1_most_53 rfl ?_
            refine x_iload_n hx hb hl 2 rfl dX1_most_54 rfl ?_
            refine x_goi (x_runVN (As := [.ref (h0 + d), .int (xJ i2_23)]) hx hb hml hown hT hE hW hl.1 (Or.inl (by decide)) (so_128 h0 g _) rfl cf_X0_reachOf wq879 wq57 wn960 (c_X0_reachOf l D g T h0 s14 hW.2.1 d hd i2_23 ri2_23 q15) ⟨rfl, rfl, ⟨by decide, by decide⟩, ⟨by decide, by decide⟩⟩ rfl rfl (Nat.le_of_ble_eq_true rfl) dX1_most_55) hW (fun x26 s27 H locs rx26 hp28 hW => ?_)
            obtain ⟨fs27, hp28⟩ := hp28
            have hF29 := hF17.call fs27 (fun k h => by omega)
            have q30 : s27 1 1 = s0 1 1 := (congrFun (fs27 _ (by omega)) _).trans q16
            have ghp28 := hp28.2
            refine lv_goto (tgt := 62) hx hb dX1_most_58 (by decide) ?_
            refine x_iast hx hb hE hW (by decide) (fun σ => sa_262 h0 g σ) (by omega) (by decide) rx26 dX1_most_62 (fun H locs s31 es31 hW => ?_)
            have q32 : s31 1 1 = s0 1 1 := (show s31 1 1 = s27 1 1 from by rw [es31, xU_k _ _ _ (by omega)]).trans q30
            have q33 : IC s31 := by rw [es31]; exact IC_o (by decide) hp28.1.1
            have hF34 := hF29.put es31 (by omega)
            refine x_iinc (lv' := [(2, .int (xJ (i2_23 + 1))), (0, .ref (h0 + 261)), (1, .ref (h0 + d))]) hx hb hl 2 rfl dX1_most_63 (by decide) rfl (fun ls hl => ?_)
            refine lv_goto (tgt := 23) hx hb dX1_most_66 (by decide) ?_
            exact ih23 (i2_23 + 1) s31 H locs ls (by omega) hF34 q33 q32 (by omega) (by omega) (by omega) hW (lv_sub hl [1, 2, 0] rfl)
        exact L23 ((10 + 1 - 0 : Int).toNat + 1) 0 s_2 H locs ls (by decide) hF_2 q2_0 q2_1 (by omega) (by omega) (Nat.lt_succ_self _) hW (lv_sub hl [1, 2, 0] rfl)
      refine x_aload_n hx hb hl 0 rfl dX1_most_8 rfl ?_
      refine x_get (j := 3) (v := .ref (h0 + 264)) hx hb hown hT hE hW cls_X1 (Or.inl (by decide)) (so_261 h0 g _) (by decide) rfl wq496 dX1_most_9 ?_
      refine x_iload_n hx hb hl 2 rfl dX1_most_12 rfl ?_
      refine x_iconst hx hb dX1_most_13 ?_
      refine x_iast hx hb hE hW (by decide) (fun σ => sa_264 h0 g σ) (by omega) (by decide) (by decide) dX1_most_14 (fun H locs s35 es35 hW => ?_)
      have q36 : IC s35 := by rw [es35]; exact IC_o (by decide) q2_0
      have q37 : s35 1 1 = s0 1 1 := (show s35 1 1 = s_2 1 1 from by rw [es35, xU_k _ _ _ (by omega)]).trans q2_1
      have hF38 := hF_2.put es35 (by omega)
      refine x_iinc (lv' := [(2, .int (xJ (i2_2 + 1))), (0, .ref (h0 + 261)), (1, .ref (h0 + d))]) hx hb hl 2 rfl dX1_most_15 (by decide) rfl (fun ls hl => ?_)
      refine lv_goto (tgt := 2) hx hb dX1_most_18 (by decide) ?_
      exact ih2 (i2_2 + 1) s35 H locs ls (by omega) hF38 q36 q37 (by omega) (by omega) (by omega) hW (lv_sub hl [1, 2, 0] rfl)
  exact L2 ((100 + 1 - 0 : Int).toNat + 1) 0 s0 H locs ls (by decide) hF p0 k1_1 (by omega) (by omega) (Nat.lt_succ_self _) hW (lv_sub hl [1, 2, 0] rfl)
set_option maxHeartbeats 4000000 in
set_option maxRecDepth 100000 in
theorem c_X3_copyOfNow (l : Launch) (D : va_G) (g : xG) (T : Nat × Nat × Nat) (h0 : Nat) (s0 : xS) (hσ : xRR s0) (p0 : IC s0) : Met l yX3_copyOfNow (xws yX3_copyOfNow cX3_copyOfNow 2 (some (.object "ShadowCourt$Day"))) { frames := 1, cells := 0, slots := 0, locals := 22 } (xP [.ref (h0 + 156)] D g T h0 s0) (xQr D g h0 (fun r τ => 158 = r ∧ xFr (fun k => k = 158 ∨ k = 159 ∨ k = 160 ∨ k = 163 ∨ k = 164 ∨ k = 165 ∨ k = 166 ∨ k = 167) s0 τ ∧ (((IC τ) ∧ True) ∧ (True)))) 0 0 (xA h0) := by
  refine x_met hσ (by decide) (Nat.le_of_ble_eq_true rfl) ?_
  intro p e s m args below meth c hx hb hr hml hown hT hlk hnm hE hW ls hl
  have hl : lv_has ls 2 [(0, .ref (h0 + 156))] := hl
  obtain ⟨Q, eQ⟩ : ∃ Q, Q = MQ below (xQr D g h0 (fun r τ => 158 = r ∧ xFr (fun k => k = 158 ∨ k = 159 ∨ k = 160 ∨ k = 163 ∨ k = 164 ∨ k = 165 ∨ k = 166 ∨ k = 167) s0 τ ∧ (((IC τ) ∧ True) ∧ (True)))) args s 0 0 (xA h0) := ⟨_, rfl⟩
  rw [← eQ]
  generalize hHe : ([] : List Loc) = locs at hW ⊢
  obtain ⟨H, eH⟩ : ∃ H, H = s.heap := ⟨_, rfl⟩
  rw [← eH] at hW ⊢
  have hF : xFr (fun k => k = 158 ∨ k = 159 ∨ k = 160 ∨ k = 163 ∨ k = 164 ∨ k = 165 ∨ k = 166 ∨ k = 167) s0 s0 := xFr.rf
  have k1_1 : s0 1 1 = s0 1 1 := rfl
  refine x_aload_n hx hb hl 0 rfl dX3_copyOfNow_0 rfl ?_
  refine x_get (j := 2) (v := .ref (h0 + 157)) hx hb hown hT hE hW cls_X3 (Or.inl (by decide)) (so_156 h0 g _) (by decide) rfl wq452 dX3_copyOfNow_1 ?_
  refine x_iconst hx hb dX3_copyOfNow_4 ?_
  refine x_aaldR (t0 := 4) (n := 6) (r := 158) hx hb hE hW (by decide) rfl rfl (sg_157 h0 g _) ⟨by decide, by decide⟩ (by decide) rfl dX3_copyOfNow_5 ?_
  refine lv_astore_n (lv' := [(1, .ref (h0 + 158)), (0, .ref (h0 + 156))]) hx hb dX3_copyOfNow_6 rfl hl (by decide) rfl (fun ls hl => ?_)
  refine x_aload_n hx hb hl 0 rfl dX3_copyOfNow_7 rfl ?_
  refine x_aload_n hx hb hl 1 rfl dX3_copyOfNow_8 rfl ?_
  refine x_get (j := 1) (v := .ref (h0 + 136)) hx hb hown hT hE hW cls_X3 (Or.inl (by decide)) (so_156 h0 g _) (by decide) rfl wq451 dX3_copyOfNow_9 ?_
  refine x_gov (x_runVN (As := [.ref (h0 + 136)]) hx hb hml hown hT hE hW hl.1 (Or.inl (by decide)) (so_158 h0 g _) rfl cf_X2_copyFrom wq918 wq64 wn916 (c_X2_copyFrom l D g T h0 s0 hW.2.1 158 xd_158 136 xd_136 p0) ⟨rfl, rfl, ⟨by decide, by decide⟩, ⟨by decide, by decide⟩⟩ rfl rfl (Nat.le_of_ble_eq_true rfl) dX3_copyOfNow_12) hW (fun s2 H locs hp3 hW => ?_)
  obtain ⟨fs2, hp3⟩ := hp3
  have hF4 := hF.call fs2 (fun k h => by omega)
  have q5 : s2 1 1 = s0 1 1 := (congrFun (fs2 _ (by omega)) _).trans k1_1
  have ghp3 := hp3.2
  refine x_aload_n hx hb hl 0 rfl dX3_copyOfNow_15 rfl ?_
  refine x_gov (x_runVN (As := []) hx hb hml hown hT hE hW hl.1 (Or.inl (by decide)) (so_158 h0 g _) rfl cf_X2_clearCounts wq922 wq65 wn920 (c_X2_clearCounts l D g T h0 s2 hW.2.1 158 xd_158 hp3.1.1) ⟨rfl, rfl, ⟨by decide, by decide⟩, ⟨by decide, by decide⟩⟩ rfl rfl (Nat.le_of_ble_eq_true rfl) dX3_copyOfNow_16) hW (fun s7 H locs hp8 hW => ?_)
  obtain ⟨fs7, hp8⟩ := hp8
  have hF9 := hF4.call fs7 (fun k h => by omega)
  have q10 : s7 1 1 = s0 1 1 := (congrFun (fs7 _ (by omega)) _).trans q5
  have ghp8 := hp8.2
  refine x_aload_n hx hb hl 0 rfl dX3_copyOfNow_19 rfl ?_
  rw [eQ]
  exact x_aret hx hb hr (Or.inl ⟨_, rfl⟩) hlk hW ⟨rfl, ⟨hF9, ⟨hp8.1.1, trivial⟩, trivial⟩⟩ dX3_copyOfNow_20
set_option maxHeartbeats 4000000 in
set_option maxRecDepth 100000 in
theorem c_X3_stepAlone (l : Launch) (D : va_G) (g : xG) (T : Nat × Nat × Nat) (h0 : Nat) (s0 : xS) (hσ : xRR s0) (x : Int) (rx : xR x) (p0 : IC s0) : Met l yX3_stepAlone (xws yX3_stepAlone cX3_stepAlone 2 (some (.array .int))) { frames := 0, cells := 0, slots := 0, locals := 0 } (xP [.ref (h0 + 156), .int (xJ x)] D g T h0 s0) (xQr D g h0 (fun r τ => s0 = τ ∧ (219 ≤ r ∧ r < 224))) 0 0 (xA h0) := by
  refine x_met hσ (by decide) (Nat.le_of_ble_eq_true rfl) ?_
  intro p e s m args below meth c hx hb hr hml hown hT hlk hnm hE hW ls hl
  have hl : lv_has ls 2 [(0, .ref (h0 + 156)), (1, .int (xJ x))] := hl
  obtain ⟨Q, eQ⟩ : ∃ Q, Q = MQ below (xQr D g h0 (fun r τ => s0 = τ ∧ (219 ≤ r ∧ r < 224))) args s 0 0 (xA h0) := ⟨_, rfl⟩
  rw [← eQ]
  generalize hHe : ([] : List Loc) = locs at hW ⊢
  obtain ⟨H, eH⟩ : ∃ H, H = s.heap := ⟨_, rfl⟩
  rw [← eH] at hW ⊢
  have k1_1 : s0 1 1 = s0 1 1 := rfl
  refine x_aload_n hx hb hl 0 rfl dX3_stepAlone_0 rfl ?_
  refine x_get (j := 3) (v := .ref (h0 + 218)) hx hb hown hT hE hW cls_X3 (Or.inl (by decide)) (so_156 h0 g _) (by decide) rfl wq453 dX3_stepAlone_1 ?_
  refine x_iload_n hx hb hl 1 rfl dX3_stepAlone_4 rfl ?_
  have J17 : ∀ (ls : Array Slot), lv_has ls 2 [] → W p l e { frames := 0, cells := 0, slots := 0, locals := 0 } s m args below meth c H locs 0 0 Q (F0 m 17 ls [.ref (h0 + 218)]) := by
    intro ls   hl
    refine x_iconst hx hb dX3_stepAlone_17 ?_
    refine x_aaldR (t0 := 3) (n := 5) (r := 223) hx hb hE hW (by decide) rfl rfl (sg_218 h0 g _) ⟨by decide, by decide⟩ (by decide) rfl dX3_stepAlone_18 ?_
    rw [eQ]
    exact x_aret hx hb hr (Or.inr ⟨_, rfl⟩) hlk hW ⟨rfl, by omega⟩ dX3_stepAlone_19
  refine x_if_lt (tgt := 17) hx hb rx dX3_stepAlone_5 (by decide) (fun c1 => ?_) (fun c1 => ?_)
  · skip
    exact J17 ls   (lv_sub hl [] rfl)
  refine x_iload_n hx hb hl 1 rfl dX3_stepAlone_8 rfl ?_
  refine x_iconst hx hb dX3_stepAlone_9 ?_
  refine x_icmp_gt (tgt := 17) hx hb rx (by decide) dX3_stepAlone_10 (by decide) (fun c2 => ?_) (fun c2 => ?_)
  · skip
    exact J17 ls   (lv_sub hl [] rfl)
  refine x_iload_n hx hb hl 1 rfl dX3_stepAlone_13 rfl ?_
  refine lv_goto (tgt := 18) hx hb dX3_stepAlone_14 (by decide) ?_
  refine x_aaldR (t0 := 3) (n := 5) (r := 219 + (x).toNat) hx hb hE hW (by decide) rfl rfl (sg_218 h0 g _) (by omega) (by decide) rfl dX3_stepAlone_18 ?_
  rw [eQ]
  exact x_aret hx hb hr (Or.inr ⟨_, rfl⟩) hlk hW ⟨rfl, by omega⟩ dX3_stepAlone_19
set_option maxHeartbeats 4000000 in
set_option maxRecDepth 100000 in
theorem c_X3_turnToNextWay (l : Launch) (D : va_G) (g : xG) (T : Nat × Nat × Nat) (h0 : Nat) (s0 : xS) (hσ : xRR s0) (n : Int) (rn : xR n) (hn : 1 ≤ n ∧ n ≤ 5) (p0 : IC s0) : Met l yX3_turnToNextWay (xws yX3_turnToNextWay cX3_turnToNextWay 3 (some .int)) { frames := 1, cells := 0, slots := 0, locals := 13 } (xP [.ref (h0 + 156), .int (xJ n)] D g T h0 s0) (xQi D g h0 (fun r τ => xFr (fun k => k = 224) s0 τ ∧ (((IC τ) ∧ True) ∧ (r = -1 ∨ (0 ≤ r ∧ r ≤ 4))))) 0 0 (xA h0) := by
  refine x_met hσ (by decide) (Nat.le_of_ble_eq_true rfl) ?_
  intro p e s m args below meth c hx hb hr hml hown hT hlk hnm hE hW ls hl
  have hl : lv_has ls 3 [(0, .ref (h0 + 156)), (1, .int (xJ n))] := hl
  obtain ⟨Q, eQ⟩ : ∃ Q, Q = MQ below (xQi D g h0 (fun r τ => xFr (fun k => k = 224) s0 τ ∧ (((IC τ) ∧ True) ∧ (r = -1 ∨ (0 ≤ r ∧ r ≤ 4))))) args s 0 0 (xA h0) := ⟨_, rfl⟩
  rw [← eQ]
  generalize hHe : ([] : List Loc) = locs at hW ⊢
  obtain ⟨H, eH⟩ : ∃ H, H = s.heap := ⟨_, rfl⟩
  rw [← eH] at hW ⊢
  have hF : xFr (fun k => k = 224) s0 s0 := xFr.rf
  have k1_1 : s0 1 1 = s0 1 1 := rfl
  refine x_iload_n hx hb hl 1 rfl dX3_turnToNextWay_0 rfl ?_
  refine x_iconst hx hb dX3_turnToNextWay_1 ?_
  refine x_mmin hx hb hml hl.1 hown hT wq997 wq569 wq180 wq570 ⟨by decide, Nat.le_of_ble_eq_true rfl, by decide, by decide⟩ rn (by decide) dX3_turnToNextWay_2 ?_
  refine x_nm (fun x1 ex1 => ?_)
  have fx1 : (x1 = n ∧ n ≤ 5) ∨ (x1 = 5 ∧ 5 ≤ n) := by rw [ex1]; split <;> omega
  refine x_iconst hx hb dX3_turnToNextWay_5 ?_
  refine x_isub hx hb dX3_turnToNextWay_6 ?_
  refine x_nm (fun x2 ex2 => ?_)
  refine lv_istore_n (lv' := [(2, .int (xJ x2)), (0, .ref (h0 + 156)), (1, .int (xJ n))]) hx hb dX3_turnToNextWay_7 rfl hl (by decide) rfl (fun ls hl => ?_)
  have L8 : ∀ (fu : Nat) (i2_8 : Int) (s_8 : xS) (H : Heap) (locs : List Loc) (ls : Array Slot), (xR i2_8) → (xFr (fun k => k = 224) s0 s_8) → (IC s_8) → (s_8 1 1 = s0 1 1) → (-1 ≤ i2_8 ∧ i2_8 ≤ 4) → (i2_8 + 1).toNat < fu → xW D g h0 s H locs s_8 → lv_has ls 3 [(0, .ref (h0 + 156)), (2, .int (xJ i2_8))] → W p l e { frames := 1, cells := 0, slots := 0, locals := 13 } s m args below meth c H locs 0 0 Q (F0 m 8 ls []) := by
    intro fu
    induction fu with
    | zero => intro i2_8 s_8 H locs ls ri2_8 hF_8 q8_0 q8_1 v8_0 hm; exact absurd hm (Nat.not_lt_zero _)
    | succ fu ih8 =>
      intro i2_8 s_8 H locs ls ri2_8 hF_8 q8_0 q8_1 v8_0 hm hW hl
      refine x_iload_n hx hb hl 1 rfl dX3_turnToNextWay_8 rfl ?_
      refine x_if_lt (tgt := 47) hx hb ri2_8 dX3_turnToNextWay_9 (by decide) (fun c3 => ?_) (fun c3 => ?_)
      · skip
        refine x_iconst hx hb dX3_turnToNextWay_47 ?_
        rw [eQ]
        exact x_iret hx hb hr hlk hW (by decide) ⟨hF_8, ⟨q8_0, trivial⟩, by omega⟩ dX3_turnToNextWay_48
      refine x_aload_n hx hb hl 0 rfl dX3_turnToNextWay_12 rfl ?_
      refine x_get (j := 4) (v := .ref (h0 + 224)) hx hb hown hT hE hW cls_X3 (Or.inl (by decide)) (so_156 h0 g _) (by decide) rfl wq454 dX3_turnToNextWay_13 ?_
      refine x_iload_n hx hb hl 1 rfl dX3_turnToNextWay_16 rfl ?_
      refine x_iald hx hb hE hW (Or.inl (by decide)) (sa_224 h0 g _) (by omega) (by decide) dX3_turnToNextWay_17 ?_
      refine x_rd hW (fun x4 ex4 rx4 => ?_)
      refine x_iconst hx hb dX3_turnToNextWay_18 ?_
      refine x_icmp_ge (tgt := 34) hx hb rx4 (by decide) dX3_turnToNextWay_19 (by decide) (fun c5 => ?_) (fun c5 => ?_)
      · skip
        refine x_aload_n hx hb hl 0 rfl dX3_turnToNextWay_34 rfl ?_
        refine x_get (j := 4) (v := .ref (h0 + 224)) hx hb hown hT hE hW cls_X3 (Or.inl (by decide)) (so_156 h0 g _) (by decide) rfl wq454 dX3_turnToNextWay_35 ?_
        refine x_iload_n hx hb hl 1 rfl dX3_turnToNextWay_38 rfl ?_
        refine x_iconst hx hb dX3_turnToNextWay_39 ?_
        refine x_iast hx hb hE hW (by decide) (fun σ => sa_224 h0 g σ) (by omega) (by decide) (by decide) dX3_turnToNextWay_40 (fun H locs s6 es6 hW => ?_)
        have q7 : IC s6 := by rw [es6]; exact IC_o (by decide) q8_0
        have q8 : s6 1 1 = s0 1 1 := (show s6 1 1 = s_8 1 1 from by rw [es6, xU_k _ _ _ (by omega)]).trans q8_1
        have hF9 := hF_8.put es6 (by omega)
        refine x_iinc (lv' := [(2, .int (xJ (i2_8 + (-1)))), (0, .ref (h0 + 156))]) hx hb hl 1 rfl dX3_turnToNextWay_41 (by decide) rfl (fun ls hl => ?_)
        refine lv_goto (tgt := 8) hx hb dX3_turnToNextWay_44 (by decide) ?_
        exact ih8 (i2_8 + (-1)) s6 H locs ls (by omega) hF9 q7 q8 (by omega) (by omega) hW (lv_sub hl [1, 0] rfl)
      refine x_aload_n hx hb hl 0 rfl dX3_turnToNextWay_22 rfl ?_
      refine x_get (j := 4) (v := .ref (h0 + 224)) hx hb hown hT hE hW cls_X3 (Or.inl (by decide)) (so_156 h0 g _) (by decide) rfl wq454 dX3_turnToNextWay_23 ?_
      refine x_iload_n hx hb hl 1 rfl dX3_turnToNextWay_26 rfl ?_
      refine lv_dup2_11 hx hb dX3_turnToNextWay_27 rfl rfl ?_
      refine x_iald hx hb hE hW (Or.inl (by decide)) (sa_224 h0 g _) (by omega) (by decide) dX3_turnToNextWay_28 ?_
      refine x_rd hW (fun x10 ex10 rx10 => ?_)
      refine x_iconst hx hb dX3_turnToNextWay_29 ?_
      refine x_iadd hx hb dX3_turnToNextWay_30 ?_
      refine x_iast hx hb hE hW (by decide) (fun σ => sa_224 h0 g σ) (by omega) (by decide) (by omega) dX3_turnToNextWay_31 (fun H locs s11 es11 hW => ?_)
      have q12 : IC s11 := by rw [es11]; exact IC_o (by decide) q8_0
      have q13 : s11 1 1 = s0 1 1 := (show s11 1 1 = s_8 1 1 from by rw [es11, xU_k _ _ _ (by omega)]).trans q8_1
      have hF14 := hF_8.put es11 (by omega)
      refine x_iload_n hx hb hl 1 rfl dX3_turnToNextWay_32 rfl ?_
      rw [eQ]
      exact x_iret hx hb hr hlk hW ri2_8 ⟨hF14, ⟨q12, trivial⟩, by omega⟩ dX3_turnToNextWay_33
  exact L8 ((x2 + 1 : Int).toNat + 1) x2 s0 H locs ls (by omega) hF p0 k1_1 (by omega) (Nat.lt_succ_self _) hW (lv_sub hl [1, 0] rfl)
set_option maxHeartbeats 4000000 in
set_option maxRecDepth 100000 in
theorem c_X3_leastOwedWay (l : Launch) (D : va_G) (g : xG) (T : Nat × Nat × Nat) (h0 : Nat) (s0 : xS) (hσ : xRR s0) (j : Int) (rj : xR j) (n : Int) (rn : xR n) (hn : 1 ≤ n ∧ n ≤ 5) (p0 : IC s0) : Met l yX3_leastOwedWay (xws yX3_leastOwedWay cX3_leastOwedWay 9 (some .int)) { frames := 6, cells := 0, slots := 0, locals := 155 } (xP [.ref (h0 + 156), .int (xJ j), .int (xJ n)] D g T h0 s0) (xQi D g h0 (fun r τ => xFr (fun k => (158 ≤ k ∧ k < 218) ∨ (7 ≤ k ∧ k < 107) ∨ k = 107 ∨ k = 115 ∨ k = 116 ∨ k = 130 ∨ k = 131 ∨ k = 132 ∨ k = 133 ∨ k = 134 ∨ k = 135 ∨ k = 158 ∨ k = 159 ∨ k = 160 ∨ k = 163 ∨ k = 164 ∨ k = 165 ∨ k = 166 ∨ k = 167 ∨ k = 224 ∨ k = 225) s0 τ ∧ (((IC τ) ∧ True) ∧ (True)))) 0 0 (xA h0) := by
  refine x_met hσ (by decide) (Nat.le_of_ble_eq_true rfl) ?_
  intro p e s m args below meth c hx hb hr hml hown hT hlk hnm hE hW ls hl
  have hl : lv_has ls 9 [(0, .ref (h0 + 156)), (1, .int (xJ j)), (2, .int (xJ n))] := hl
  obtain ⟨Q, eQ⟩ : ∃ Q, Q = MQ below (xQi D g h0 (fun r τ => xFr (fun k => (158 ≤ k ∧ k < 218) ∨ (7 ≤ k ∧ k < 107) ∨ k = 107 ∨ k = 115 ∨ k = 116 ∨ k = 130 ∨ k = 131 ∨ k = 132 ∨ k = 133 ∨ k = 134 ∨ k = 135 ∨ k = 158 ∨ k = 159 ∨ k = 160 ∨ k = 163 ∨ k = 164 ∨ k = 165 ∨ k = 166 ∨ k = 167 ∨ k = 224 ∨ k = 225) s0 τ ∧ (((IC τ) ∧ True) ∧ (True)))) args s 0 0 (xA h0) := ⟨_, rfl⟩
  rw [← eQ]
  generalize hHe : ([] : List Loc) = locs at hW ⊢
  obtain ⟨H, eH⟩ : ∃ H, H = s.heap := ⟨_, rfl⟩
  rw [← eH] at hW ⊢
  have hF : xFr (fun k => (158 ≤ k ∧ k < 218) ∨ (7 ≤ k ∧ k < 107) ∨ k = 107 ∨ k = 115 ∨ k = 116 ∨ k = 130 ∨ k = 131 ∨ k = 132 ∨ k = 133 ∨ k = 134 ∨ k = 135 ∨ k = 158 ∨ k = 159 ∨ k = 160 ∨ k = 163 ∨ k = 164 ∨ k = 165 ∨ k = 166 ∨ k = 167 ∨ k = 224 ∨ k = 225) s0 s0 := xFr.rf
  have k1_1 : s0 1 1 = s0 1 1 := rfl
  refine x_aload_n hx hb hl 0 rfl dX3_leastOwedWay_0 rfl ?_
  refine x_gor (x_runV (As := []) hx hb hml hown hT hE hW hl.1 (Or.inl (by decide)) (so_156 h0 g _) rfl cf_X3_copyOfNow wq914 wq63 wq992 (c_X3_copyOfNow l D g T h0 s0 hW.2.1 p0) ⟨rfl, rfl, ⟨by decide, by decide⟩, ⟨by decide, by decide⟩⟩ rfl rfl (Nat.le_of_ble_eq_true rfl) dX3_leastOwedWay_1) hW (fun x1 s2 H locs hp3 hW => ?_)
  obtain ⟨ex1, hp3⟩ := hp3
  subst ex1
  obtain ⟨fs2, hp3⟩ := hp3
  have hF4 := hF.call fs2 (fun k h => by omega)
  have q5 : s2 1 1 = s0 1 1 := (congrFun (fs2 _ (by omega)) _).trans k1_1
  have ghp3 := hp3.2
  refine x_goi (x_runVN (As := []) hx hb hml hown hT hE hW hl.1 (Or.inl (by decide)) (so_158 h0 g _) rfl cf_X2_owedByAll wq765 wq35 wn1022 (c_X2_owedByAll l D g T h0 s2 hW.2.1 158 xd_158 hp3.1.1) ⟨rfl, rfl, ⟨by decide, by decide⟩, ⟨by decide, by decide⟩⟩ rfl rfl (Nat.le_of_ble_eq_true rfl) dX3_leastOwedWay_4) hW (fun x6 s7 H locs rx6 hp8 hW => ?_)
  obtain ⟨es7, hp8⟩ := hp8
  subst es7
  have ghp8 := hp8
  refine lv_istore_n (lv' := [(3, .int (xJ x6)), (0, .ref (h0 + 156)), (1, .int (xJ j)), (2, .int (xJ n))]) hx hb dX3_leastOwedWay_7 rfl hl (by decide) rfl (fun ls hl => ?_)
  refine lv_ldc (v := xJ 1000000) hx hb hown (hT _ wq991) dX3_leastOwedWay_8 ?_
  refine lv_istore (lv' := [(4, .int (xJ 1000000)), (3, .int (xJ x6)), (0, .ref (h0 + 156)), (1, .int (xJ j)), (2, .int (xJ n))]) hx hb dX3_leastOwedWay_10 hl (by decide) rfl (fun ls hl => ?_)
  refine x_iconst hx hb dX3_leastOwedWay_12 ?_
  refine lv_istore (lv' := [(5, .int (xJ 0)), (4, .int (xJ 1000000)), (3, .int (xJ x6)), (0, .ref (h0 + 156)), (1, .int (xJ j)), (2, .int (xJ n))]) hx hb dX3_leastOwedWay_13 hl (by decide) rfl (fun ls hl => ?_)
  refine x_iconst hx hb dX3_leastOwedWay_15 ?_
  refine lv_istore (lv' := [(6, .int (xJ 0)), (5, .int (xJ 0)), (4, .int (xJ 1000000)), (3, .int (xJ x6)), (0, .ref (h0 + 156)), (1, .int (xJ j)), (2, .int (xJ n))]) hx hb dX3_leastOwedWay_16 hl (by decide) rfl (fun ls hl => ?_)
  have L18 : ∀ (fu : Nat) (i6_18 : Int) (s_18 : xS) (H : Heap) (locs : List Loc) (ls : Array Slot), (xR i6_18) → (xFr (fun k => (158 ≤ k ∧ k < 218) ∨ (7 ≤ k ∧ k < 107) ∨ k = 107 ∨ k = 115 ∨ k = 116 ∨ k = 130 ∨ k = 131 ∨ k = 132 ∨ k = 133 ∨ k = 134 ∨ k = 135 ∨ k = 158 ∨ k = 159 ∨ k = 160 ∨ k = 163 ∨ k = 164 ∨ k = 165 ∨ k = 166 ∨ k = 167 ∨ k = 224 ∨ k = 225) s0 s_18) → (s_18 1 1 = s0 1 1) → (IC s_18) → (0 ≤ i6_18) → (i6_18 ≤ 5) → (5 + 1 - i6_18).toNat < fu → xW D g h0 s H locs s_18 → lv_has ls 9 [(0, .ref (h0 + 156)), (1, .int (xJ j)), (2, .int (xJ n)), (3, .int (xJ x6)), (4, .int (xJ 1000000)), (5, .int (xJ 0)), (6, .int (xJ i6_18))] → W p l e { frames := 6, cells := 0, slots := 0, locals := 155 } s m args below meth c H locs 0 0 Q (F0 m 18 ls []) := by
    intro fu
    induction fu with
    | zero => intro i6_18 s_18 H locs ls ri6_18 hF_18 q18_0 q18_1 v18_0 v18_1 hm; exact absurd hm (Nat.not_lt_zero _)
    | succ fu ih18 =>
      intro i6_18 s_18 H locs ls ri6_18 hF_18 q18_0 q18_1 v18_0 v18_1 hm hW hl
      refine x_iload hx hb hl 6 rfl dX3_leastOwedWay_18 ?_
      refine x_iconst hx hb dX3_leastOwedWay_20 ?_
      refine x_icmp_ge (tgt := 38) hx hb ri6_18 (by decide) dX3_leastOwedWay_21 (by decide) (fun c9 => ?_) (fun c9 => ?_)
      · skip
        refine x_iconst hx hb dX3_leastOwedWay_38 ?_
        refine lv_istore (lv' := [(6, .int (xJ 0)), (0, .ref (h0 + 156)), (1, .int (xJ j)), (2, .int (xJ n)), (3, .int (xJ x6)), (4, .int (xJ 1000000)), (5, .int (xJ 0))]) hx hb dX3_leastOwedWay_39 hl (by decide) rfl (fun ls hl => ?_)
        have L41 : ∀ (fu : Nat) (i4_41 : Int) (i5_41 : Int) (i6_41 : Int) (s_41 : xS) (H : Heap) (locs : List Loc) (ls : Array Slot), (xR i4_41) → (xR i5_41) → (xR i6_41) → (xFr (fun k => (158 ≤ k ∧ k < 218) ∨ (7 ≤ k ∧ k < 107) ∨ k = 107 ∨ k = 115 ∨ k = 116 ∨ k = 130 ∨ k = 131 ∨ k = 132 ∨ k = 133 ∨ k = 134 ∨ k = 135 ∨ k = 158 ∨ k = 159 ∨ k = 160 ∨ k = 163 ∨ k = 164 ∨ k = 165 ∨ k = 166 ∨ k = 167 ∨ k = 224 ∨ k = 225) s0 s_41) → (s_41 1 1 = s0 1 1) → (IC s_41) → (0 ≤ i6_41) → (i5_41 ≤ 4) → (3125 - i6_41).toNat < fu → xW D g h0 s H locs s_41 → lv_has ls 9 [(0, .ref (h0 + 156)), (1, .int (xJ j)), (2, .int (xJ n)), (3, .int (xJ x6)), (4, .int (xJ i4_41)), (5, .int (xJ i5_41)), (6, .int (xJ i6_41))] → W p l e { frames := 6, cells := 0, slots := 0, locals := 155 } s m args below meth c H locs 0 0 Q (F0 m 41 ls []) := by
          intro fu
          induction fu with
          | zero => intro i4_41 i5_41 i6_41 s_41 H locs ls ri4_41 ri5_41 ri6_41 hF_41 q41_0 q41_1 v41_0 v41_1 hm; exact absurd hm (Nat.not_lt_zero _)
          | succ fu ih41 =>
            intro i4_41 i5_41 i6_41 s_41 H locs ls ri4_41 ri5_41 ri6_41 hF_41 q41_0 q41_1 v41_0 v41_1 hm hW hl
            refine x_iload hx hb hl 6 rfl dX3_leastOwedWay_41 ?_
            refine x_sipush hx hb dX3_leastOwedWay_43 (by decide) ?_
            refine x_icmp_ge (tgt := 182) hx hb ri6_41 (by decide) dX3_leastOwedWay_46 (by decide) (fun c10 => ?_) (fun c10 => ?_)
            · skip
              refine x_iload_n hx hb hl 3 rfl dX3_leastOwedWay_182 rfl ?_
              refine x_iload hx hb hl 4 rfl dX3_leastOwedWay_183 ?_
              refine x_isub hx hb dX3_leastOwedWay_185 ?_
              refine x_any (fun x11 rx11 => ?_)
              rw [eQ]
              exact x_iret hx hb hr hlk hW rx11 ⟨hF_41, ⟨q41_1, trivial⟩, trivial⟩ dX3_leastOwedWay_186
            refine x_iload hx hb hl 5 rfl dX3_leastOwedWay_49 ?_
            refine x_if_lt (tgt := 182) hx hb ri5_41 dX3_leastOwedWay_51 (by decide) (fun c12 => ?_) (fun c12 => ?_)
            · skip
              refine x_iload_n hx hb hl 3 rfl dX3_leastOwedWay_182 rfl ?_
              refine x_iload hx hb hl 4 rfl dX3_leastOwedWay_183 ?_
              refine x_isub hx hb dX3_leastOwedWay_185 ?_
              refine x_any (fun x13 rx13 => ?_)
              rw [eQ]
              exact x_iret hx hb hr hlk hW rx13 ⟨hF_41, ⟨q41_1, trivial⟩, trivial⟩ dX3_leastOwedWay_186
            refine x_aload_n hx hb hl 0 rfl dX3_leastOwedWay_54 rfl ?_
            refine x_get (j := 2) (v := .ref (h0 + 157)) hx hb hown hT hE hW cls_X3 (Or.inl (by decide)) (so_156 h0 g _) (by decide) rfl wq452 dX3_leastOwedWay_55 ?_
            refine x_iload hx hb hl 5 rfl dX3_leastOwedWay_58 ?_
            obtain ⟨d83, ed83, hd83, gd83⟩ : ∃ d : Nat, d = 158 + 10 * (i5_41).toNat ∧ xDay d ∧ (158 ≤ d ∧ d ≤ 208) := ⟨_, rfl, by unfold xDay; omega, by omega⟩
            refine x_aaldR (t0 := 4) (n := 6) (r := d83) hx hb hE hW (by decide) rfl rfl (sg_157 h0 g _) (by omega) (by decide) (by rw [ed83]; rfl) dX3_leastOwedWay_60 ?_
            refine lv_astore (lv' := [(7, .ref (h0 + d83)), (0, .ref (h0 + 156)), (1, .int (xJ j)), (2, .int (xJ n)), (3, .int (xJ x6)), (4, .int (xJ i4_41)), (5, .int (xJ i5_41)), (6, .int (xJ i6_41))]) hx hb dX3_leastOwedWay_61 hl (by decide) rfl (fun ls hl => ?_)
            refine x_iload hx hb hl 6 rfl dX3_leastOwedWay_63 ?_
            refine lv_istore (lv' := [(8, .int (xJ i5_41)), (7, .ref (h0 + d83)), (0, .ref (h0 + 156)), (1, .int (xJ j)), (2, .int (xJ n)), (3, .int (xJ x6)), (4, .int (xJ i4_41)), (5, .int (xJ i5_41)), (6, .int (xJ i6_41))]) hx hb dX3_leastOwedWay_65 hl (by decide) rfl (fun ls hl => ?_)
            have L67 : ∀ (fu : Nat) (d767 : Nat) (i8_67 : Int) (s_67 : xS) (H : Heap) (locs : List Loc) (ls : Array Slot), (xDay d767) → (158 ≤ d767 ∧ d767 ≤ 208) → (xR i8_67) → (xFr (fun k => (158 ≤ k ∧ k < 218) ∨ (7 ≤ k ∧ k < 107) ∨ k = 107 ∨ k = 115 ∨ k = 116 ∨ k = 130 ∨ k = 131 ∨ k = 132 ∨ k = 133 ∨ k = 134 ∨ k = 135 ∨ k = 158 ∨ k = 159 ∨ k = 160 ∨ k = 163 ∨ k = 164 ∨ k = 165 ∨ k = 166 ∨ k = 167 ∨ k = 224 ∨ k = 225) s0 s_67) → (s_67 1 1 = s0 1 1) → (IC s_67) → (0 ≤ i8_67 ∧ i8_67 ≤ 5) → (5 - i8_67).toNat < fu → xW D g h0 s H locs s_67 → lv_has ls 9 [(0, .ref (h0 + 156)), (1, .int (xJ j)), (2, .int (xJ n)), (3, .int (xJ x6)), (4, .int (xJ i4_41)), (6, .int (xJ i6_41)), (7, .ref (h0 + d767)), (8, .int (xJ i8_67))] → W p l e { frames := 6, cells := 0, slots := 0, locals := 155 } s m args below meth c H locs 0 0 Q (F0 m 67 ls []) := by
              intro fu
              induction fu with
              | zero => intro d767 i8_67 s_67 H locs ls hd767 gd767 ri8_67 hF_67 q67_0 q67_1 v67_0 hm; exact absurd hm (Nat.not_lt_zero _)
              | succ fu ih67 =>
                intro d767 i8_67 s_67 H locs ls hd767 gd767 ri8_67 hF_67 q67_0 q67_1 v67_0 hm hW hl
                refine x_iload hx hb hl 7 rfl dX3_leastOwedWay_67 ?_
                refine x_iload_n hx hb hl 2 rfl dX3_leastOwedWay_69 rfl ?_
                have J137 : ∀ (ls : Array Slot), lv_has ls 9 [(0, .ref (h0 + 156)), (1, .int (xJ j)), (2, .int (xJ n)), (3, .int (xJ x6)), (4, .int (xJ i4_41)), (6, .int (xJ i6_41)), (7, .ref (h0 + d767))] → W p l e { frames := 6, cells := 0, slots := 0, locals := 155 } s m args below meth c H locs 0 0 Q (F0 m 137 ls []) := by
                  intro ls   hl
                  refine x_aload hx hb hl 6 rfl dX3_leastOwedWay_137 ?_
                  refine x_goi (x_runVN (As := []) hx hb hml hown hT hE hW hl.1 (Or.inl (by omega)) (so_day0 h0 g hd767 _) rfl cf_X2_owedByAll wq765 wq35 wn1022 (c_X2_owedByAll l D g T h0 s_67 hW.2.1 d767 hd767 q67_1) ⟨rfl, rfl, ⟨by decide, by decide⟩, ⟨by decide, by decide⟩⟩ rfl rfl (Nat.le_of_ble_eq_true rfl) dX3_leastOwedWay_139) hW (fun x15 s16 H locs rx15 hp17 hW => ?_)
                  obtain ⟨es16, hp17⟩ := hp17
                  subst es16
                  have ghp17 := hp17
                  refine lv_istore (lv' := [(8, .int (xJ x15)), (0, .ref (h0 + 156)), (1, .int (xJ j)), (2, .int (xJ n)), (3, .int (xJ x6)), (4, .int (xJ i4_41)), (6, .int (xJ i6_41)), (7, .ref (h0 + d767))]) hx hb dX3_leastOwedWay_142 hl (by decide) rfl (fun ls hl => ?_)
                  refine x_iload hx hb hl 0 rfl dX3_leastOwedWay_144 ?_
                  refine x_iload hx hb hl 5 rfl dX3_leastOwedWay_146 ?_
                  refine x_icmp_ge (tgt := 169) hx hb rx15 ri4_41 dX3_leastOwedWay_148 (by decide) (fun c18 => ?_) (fun c18 => ?_)
                  · skip
                    refine x_aload_n hx hb hl 1 rfl dX3_leastOwedWay_169 rfl ?_
                    refine x_iload_n hx hb hl 3 rfl dX3_leastOwedWay_170 rfl ?_
                    refine x_goi (x_runV (As := [.int (xJ n)]) hx hb hml hown hT hE hW hl.1 (Or.inl (by decide)) (so_156 h0 g _) rfl cf_X3_turnToNextWay wq1031 wq82 wq1029 (c_X3_turnToNextWay l D g T h0 s_67 hW.2.1 n rn (by omega) q67_1) ⟨rfl, rfl, ⟨by decide, by decide⟩, ⟨by decide, by decide⟩⟩ rfl rfl (Nat.le_of_ble_eq_true rfl) dX3_leastOwedWay_171) hW (fun x19 s20 H locs rx19 hp21 hW => ?_)
                    obtain ⟨fs20, hp21⟩ := hp21
                    have hF22 := hF_67.call fs20 (fun k h => by omega)
                    have q23 : s20 1 1 = s0 1 1 := (congrFun (fs20 _ (by omega)) _).trans q67_0
                    have ghp21 := hp21.2
                    refine lv_istore (lv' := [(5, .int (xJ x19)), (8, .int (xJ x15)), (0, .ref (h0 + 156)), (1, .int (xJ j)), (2, .int (xJ n)), (3, .int (xJ x6)), (4, .int (xJ i4_41)), (6, .int (xJ i6_41)), (7, .ref (h0 + d767))]) hx hb dX3_leastOwedWay_174 hl (by decide) rfl (fun ls hl => ?_)
                    refine x_iinc (lv' := [(6, .int (xJ (i6_41 + 1))), (5, .int (xJ x19)), (8, .int (xJ x15)), (0, .ref (h0 + 156)), (1, .int (xJ j)), (2, .int (xJ n)), (3, .int (xJ x6)), (4, .int (xJ i4_41)), (7, .ref (h0 + d767))]) hx hb hl 7 rfl dX3_leastOwedWay_176 (by decide) rfl (fun ls hl => ?_)
                    refine lv_goto (tgt := 41) hx hb dX3_leastOwedWay_179 (by decide) ?_
                    exact ih41 i4_41 x19 (i6_41 + 1) s20 H locs ls ri4_41 rx19 (by omega) hF22 q23 hp21.1.1 (by omega) (by omega) (by omega) hW (lv_sub hl [3, 4, 5, 6, 7, 1, 0] rfl)
                  refine x_iload hx hb hl 0 rfl dX3_leastOwedWay_151 ?_
                  refine lv_istore (lv' := [(4, .int (xJ x15)), (8, .int (xJ x15)), (0, .ref (h0 + 156)), (1, .int (xJ j)), (2, .int (xJ n)), (3, .int (xJ x6)), (6, .int (xJ i6_41)), (7, .ref (h0 + d767))]) hx hb dX3_leastOwedWay_153 hl (by decide) rfl (fun ls hl => ?_)
                  refine x_aload_n hx hb hl 2 rfl dX3_leastOwedWay_155 rfl ?_
                  refine x_get (j := 4) (v := .ref (h0 + 224)) hx hb hown hT hE hW cls_X3 (Or.inl (by decide)) (so_156 h0 g _) (by decide) rfl wq454 dX3_leastOwedWay_156 ?_
                  refine x_iconst hx hb dX3_leastOwedWay_159 ?_
                  refine x_aload_n hx hb hl 2 rfl dX3_leastOwedWay_160 rfl ?_
                  refine x_get (j := 5) (v := .ref (h0 + 225)) hx hb hown hT hE hW cls_X3 (Or.inl (by decide)) (so_156 h0 g _) (by decide) rfl wq455 dX3_leastOwedWay_161 ?_
                  refine x_iconst hx hb dX3_leastOwedWay_164 ?_
                  refine x_iconst hx hb dX3_leastOwedWay_165 ?_
                  refine x_copyi (ns := 5) (nd := 5) hx hb hml hl.1 hown hT hE hW wq1002 wq604 wq603 wq181 (Or.inl (by decide)) (sa_224 h0 g _) (by decide) (fun σ => sa_225 h0 g σ) (by omega) ⟨by decide, Nat.le_of_ble_eq_true rfl⟩ dX3_leastOwedWay_166 (fun H locs s24 es24 hW => ?_)
                  have q25 : s24 1 1 = s0 1 1 := (show s24 1 1 = s_67 1 1 from by rw [es24, xC_k _ _ _ (by omega)]).trans q67_0
                  have q26 : IC s24 := IC_f (fun k hk => by rw [es24]; exact xC_k _ _ _ (fun q => hk (q ▸ (by decide)))) q67_1
                  have hF27 := hF_67.cpy es24 (by omega)
                  refine x_aload_n hx hb hl 2 rfl dX3_leastOwedWay_169 rfl ?_
                  refine x_iload_n hx hb hl 4 rfl dX3_leastOwedWay_170 rfl ?_
                  refine x_goi (x_runV (As := [.int (xJ n)]) hx hb hml hown hT hE hW hl.1 (Or.inl (by decide)) (so_156 h0 g _) rfl cf_X3_turnToNextWay wq1031 wq82 wq1029 (c_X3_turnToNextWay l D g T h0 s24 hW.2.1 n rn (by omega) q26) ⟨rfl, rfl, ⟨by decide, by decide⟩, ⟨by decide, by decide⟩⟩ rfl rfl (Nat.le_of_ble_eq_true rfl) dX3_leastOwedWay_171) hW (fun x28 s29 H locs rx28 hp30 hW => ?_)
                  obtain ⟨fs29, hp30⟩ := hp30
                  have hF31 := hF27.call fs29 (fun k h => by omega)
                  have q32 : s29 1 1 = s0 1 1 := (congrFun (fs29 _ (by omega)) _).trans q25
                  have ghp30 := hp30.2
                  refine lv_istore (lv' := [(5, .int (xJ x28)), (4, .int (xJ x15)), (8, .int (xJ x15)), (0, .ref (h0 + 156)), (1, .int (xJ j)), (2, .int (xJ n)), (3, .int (xJ x6)), (6, .int (xJ i6_41)), (7, .ref (h0 + d767))]) hx hb dX3_leastOwedWay_174 hl (by decide) rfl (fun ls hl => ?_)
                  refine x_iinc (lv' := [(6, .int (xJ (i6_41 + 1))), (5, .int (xJ x28)), (4, .int (xJ x15)), (8, .int (xJ x15)), (0, .ref (h0 + 156)), (1, .int (xJ j)), (2, .int (xJ n)), (3, .int (xJ x6)), (7, .ref (h0 + d767))]) hx hb hl 7 rfl dX3_leastOwedWay_176 (by decide) rfl (fun ls hl => ?_)
                  refine lv_goto (tgt := 41) hx hb dX3_leastOwedWay_179 (by decide) ?_
                  exact ih41 x15 x28 (i6_41 + 1) s29 H locs ls rx15 rx28 (by omega) hF31 q32 hp30.1.1 (by omega) (by omega) (by omega) hW (lv_sub hl [4, 5, 6, 7, 2, 1, 0] rfl)
                refine x_icmp_ge (tgt := 137) hx hb ri8_67 rn dX3_leastOwedWay_70 (by decide) (fun c33 => ?_) (fun c33 => ?_)
                · skip
                  exact J137 ls   (lv_sub hl [0, 1, 2, 3, 4, 5, 6] rfl)
                refine x_iload hx hb hl 7 rfl dX3_leastOwedWay_73 ?_
                refine x_iconst hx hb dX3_leastOwedWay_75 ?_
                refine x_icmp_ge (tgt := 137) hx hb ri8_67 (by decide) dX3_leastOwedWay_76 (by decide) (fun c34 => ?_) (fun c34 => ?_)
                · skip
                  exact J137 ls   (lv_sub hl [0, 1, 2, 3, 4, 5, 6] rfl)
                refine x_aload_n hx hb hl 0 rfl dX3_leastOwedWay_79 rfl ?_
                refine x_get (j := 2) (v := .ref (h0 + 157)) hx hb hown hT hE hW cls_X3 (Or.inl (by decide)) (so_156 h0 g _) (by decide) rfl wq452 dX3_leastOwedWay_80 ?_
                refine x_iload hx hb hl 7 rfl dX3_leastOwedWay_83 ?_
                refine x_iconst hx hb dX3_leastOwedWay_85 ?_
                refine x_iadd hx hb dX3_leastOwedWay_86 ?_
                obtain ⟨d104, ed104, hd104, gd104⟩ : ∃ d : Nat, d = 158 + 10 * ((i8_67 + 1)).toNat ∧ xDay d ∧ (158 ≤ d ∧ d ≤ 208) := ⟨_, rfl, by unfold xDay; omega, by omega⟩
                refine x_aaldR (t0 := 4) (n := 6) (r := d104) hx hb hE hW (by decide) rfl rfl (sg_157 h0 g _) (by omega) (by decide) (by rw [ed104]; rfl) dX3_leastOwedWay_87 ?_
                refine lv_astore (lv' := [(7, .ref (h0 + d104)), (0, .ref (h0 + 156)), (1, .int (xJ j)), (2, .int (xJ n)), (3, .int (xJ x6)), (4, .int (xJ i4_41)), (6, .int (xJ i6_41)), (8, .int (xJ i8_67))]) hx hb dX3_leastOwedWay_88 hl (by decide) rfl (fun ls hl => ?_)
                refine x_aload hx hb hl 0 rfl dX3_leastOwedWay_90 ?_
                refine x_aload_n hx hb hl 1 rfl dX3_leastOwedWay_92 rfl ?_
                refine x_get (j := 2) (v := .ref (h0 + 157)) hx hb hown hT hE hW cls_X3 (Or.inl (by decide)) (so_156 h0 g _) (by decide) rfl wq452 dX3_leastOwedWay_93 ?_
                refine x_iload hx hb hl 7 rfl dX3_leastOwedWay_96 ?_
                obtain ⟨d105, ed105, hd105, gd105⟩ : ∃ d : Nat, d = 158 + 10 * (i8_67).toNat ∧ xDay d ∧ (158 ≤ d ∧ d ≤ 208) := ⟨_, rfl, by unfold xDay; omega, by omega⟩
                refine x_aaldR (t0 := 4) (n := 6) (r := d105) hx hb hE hW (by decide) rfl rfl (sg_157 h0 g _) (by omega) (by decide) (by rw [ed105]; rfl) dX3_leastOwedWay_98 ?_
                refine x_gov (x_runVN (As := [.ref (h0 + d105)]) hx hb hml hown hT hE hW hl.1 (Or.inl (by omega)) (so_day0 h0 g hd104 _) rfl cf_X2_copyFrom wq918 wq64 wn916 (c_X2_copyFrom l D g T h0 s_67 hW.2.1 d104 hd104 d105 hd105 q67_1) ⟨rfl, rfl, ⟨by decide, by decide⟩, ⟨by decide, by decide⟩⟩ rfl rfl (Nat.le_of_ble_eq_true rfl) dX3_leastOwedWay_99) hW (fun s38 H locs hp39 hW => ?_)
                obtain ⟨fs38, hp39⟩ := hp39
                have hF40 := hF_67.call fs38 (fun k h => by omega)
                have q41 : s38 1 1 = s0 1 1 := (congrFun (fs38 _ (by omega)) _).trans q67_0
                have ghp39 := hp39.2
                refine x_aload hx hb hl 0 rfl dX3_leastOwedWay_102 ?_
                refine x_iload_n hx hb hl 2 rfl dX3_leastOwedWay_104 rfl ?_
                refine x_aload_n hx hb hl 1 rfl dX3_leastOwedWay_105 rfl ?_
                refine x_aload_n hx hb hl 1 rfl dX3_leastOwedWay_106 rfl ?_
                refine x_get (j := 4) (v := .ref (h0 + 224)) hx hb hown hT hE hW cls_X3 (Or.inl (by decide)) (so_156 h0 g _) (by decide) rfl wq454 dX3_leastOwedWay_107 ?_
                refine x_iload hx hb hl 7 rfl dX3_leastOwedWay_110 ?_
                refine x_iald hx hb hE hW (Or.inl (by decide)) (sa_224 h0 g _) (by omega) (by decide) dX3_leastOwedWay_112 ?_
                refine x_rd hW (fun x42 ex42 rx42 => ?_)
                refine x_gor (x_runV (As := [.int (xJ x42)]) hx hb hml hown hT hE hW hl.1 (Or.inl (by decide)) (so_156 h0 g _) rfl cf_X3_stepAlone wq1025 wq81 wq1023 (c_X3_stepAlone l D g T h0 s38 hW.2.1 x42 rx42 hp39.1.1) ⟨rfl, rfl, ⟨by decide, by decide⟩, ⟨by decide, by decide⟩⟩ rfl rfl (Nat.le_of_ble_eq_true rfl) dX3_leastOwedWay_113) hW (fun x43 s44 H locs hp45 hW => ?_)
                obtain ⟨es44, hp45⟩ := hp45
                subst es44
                have ghp45 := hp45
                refine x_gov (x_runVN (As := [.int (xJ j), .ref (h0 + x43)]) hx hb hml hown hT hE hW hl.1 (Or.inl (by omega)) (so_day0 h0 g hd104 _) rfl cf_X2_setWalk wq745 wq33 wn1027 (c_X2_setWalk l D g T h0 s38 hW.2.1 d104 hd104 j rj ((x43 : Nat) : Int) (by omega) (xAr_s (by omega)) hp39.1.1) ⟨rfl, rfl, ⟨by decide, by decide⟩, ⟨by decide, by decide⟩⟩ rfl rfl (Nat.le_of_ble_eq_true rfl) dX3_leastOwedWay_116) hW (fun s47 H locs hp48 hW => ?_)
                obtain ⟨fs47, hp48⟩ := hp48
                have hF49 := hF40.call fs47 (fun k h => by omega)
                have q50 : s47 1 1 = s0 1 1 := (congrFun (fs47 _ (by omega)) _).trans q41
                have ghp48 := hp48.2
                refine x_aload_n hx hb hl 1 rfl dX3_leastOwedWay_119 rfl ?_
                refine x_get (j := 0) (v := .ref (h0 + 128)) hx hb hown hT hE hW cls_X3 (Or.inl (by decide)) (so_156 h0 g _) (by decide) rfl wq450 dX3_leastOwedWay_120 ?_
                refine x_aload hx hb hl 0 rfl dX3_leastOwedWay_123 ?_
                refine x_iconst hx hb dX3_leastOwedWay_125 ?_
                refine x_iconst hx hb dX3_leastOwedWay_126 ?_
                refine x_goi (x_runVN (As := [.ref (h0 + d104), .int (xJ 1), .int (xJ (-1))]) hx hb hml hown hT hE hW hl.1 (Or.inl (by decide)) (so_128 h0 g _) rfl cf_X0_goOn wq761 wq34 wn1028 (c_X0_goOn l D g T h0 s47 hW.2.1 d104 hd104 1 (by decide) (-1) (by decide) hp48.1.1) ⟨rfl, rfl, ⟨by decide, by decide⟩, ⟨by decide, by decide⟩⟩ rfl rfl (Nat.le_of_ble_eq_true rfl) dX3_leastOwedWay_127) hW (fun x51 s52 H locs rx51 hp53 hW => ?_)
                obtain ⟨fs52, hp53⟩ := hp53
                have hF54 := hF49.call fs52 (fun k h => by omega)
                have q55 : s52 1 1 = s0 1 1 := (congrFun (fs52 _ (by omega)) _).trans q50
                have ghp53 := hp53.2
                refine lv_pop hx hb dX3_leastOwedWay_130 rfl ?_
                refine x_iinc (lv' := [(8, .int (xJ (i8_67 + 1))), (7, .ref (h0 + d104)), (0, .ref (h0 + 156)), (1, .int (xJ j)), (2, .int (xJ n)), (3, .int (xJ x6)), (4, .int (xJ i4_41)), (6, .int (xJ i6_41))]) hx hb hl 7 rfl dX3_leastOwedWay_131 (by decide) rfl (fun ls hl => ?_)
                refine lv_goto (tgt := 67) hx hb dX3_leastOwedWay_134 (by decide) ?_
                exact ih67 d104 (i8_67 + 1) s52 H locs ls hd104 (by omega) (by omega) hF54 q55 hp53.1.1 (by omega) (by omega) hW (lv_sub hl [2, 3, 4, 5, 6, 7, 1, 0] rfl)
            exact L67 ((5 - i5_41 : Int).toNat + 1) d83 i5_41 s_41 H locs ls hd83 (by omega) ri5_41 hF_41 q41_0 q41_1 (by omega) (Nat.lt_succ_self _) hW (lv_sub hl [2, 3, 4, 5, 6, 8, 1, 0] rfl)
        exact L41 ((3125 - 0 : Int).toNat + 1) 1000000 0 0 s_18 H locs ls (by decide) (by decide) (by decide) hF_18 q18_0 q18_1 (by omega) (by omega) (Nat.lt_succ_self _) hW (lv_sub hl [1, 2, 3, 4, 5, 6, 0] rfl)
      refine x_aload_n hx hb hl 0 rfl dX3_leastOwedWay_24 rfl ?_
      refine x_get (j := 4) (v := .ref (h0 + 224)) hx hb hown hT hE hW cls_X3 (Or.inl (by decide)) (so_156 h0 g _) (by decide) rfl wq454 dX3_leastOwedWay_25 ?_
      refine x_iload hx hb hl 6 rfl dX3_leastOwedWay_28 ?_
      refine x_iconst hx hb dX3_leastOwedWay_30 ?_
      refine x_iast hx hb hE hW (by decide) (fun σ => sa_224 h0 g σ) (by omega) (by decide) (by decide) dX3_leastOwedWay_31 (fun H locs s56 es56 hW => ?_)
      have q57 : s56 1 1 = s0 1 1 := (show s56 1 1 = s_18 1 1 from by rw [es56, xU_k _ _ _ (by omega)]).trans q18_0
      have q58 : IC s56 := by rw [es56]; exact IC_o (by decide) q18_1
      have hF59 := hF_18.put es56 (by omega)
      refine x_iinc (lv' := [(6, .int (xJ (i6_18 + 1))), (0, .ref (h0 + 156)), (1, .int (xJ j)), (2, .int (xJ n)), (3, .int (xJ x6)), (4, .int (xJ 1000000)), (5, .int (xJ 0))]) hx hb hl 6 rfl dX3_leastOwedWay_32 (by decide) rfl (fun ls hl => ?_)
      refine lv_goto (tgt := 18) hx hb dX3_leastOwedWay_35 (by decide) ?_
      exact ih18 (i6_18 + 1) s56 H locs ls (by omega) hF59 q57 q58 (by omega) (by omega) (by omega) hW (lv_sub hl [1, 2, 3, 4, 5, 6, 0] rfl)
  exact L18 ((5 + 1 - 0 : Int).toNat + 1) 0 s2 H locs ls (by decide) hF4 q5 hp3.1.1 (by omega) (by omega) (Nat.lt_succ_self _) hW (lv_sub hl [4, 5, 6, 3, 2, 1, 0] rfl)
set_option maxHeartbeats 4000000 in
set_option maxRecDepth 100000 in
theorem c_X3_bestAhead (l : Launch) (D : va_G) (g : xG) (T : Nat × Nat × Nat) (h0 : Nat) (s0 : xS) (hσ : xRR s0) (n : Int) (rn : xR n) (p0 : IC s0) : Met l yX3_bestAhead (xws yX3_bestAhead cX3_bestAhead 5 (some .int)) { frames := 6, cells := 0, slots := 0, locals := 155 } (xP [.ref (h0 + 156), .int (xJ n)] D g T h0 s0) (xQi D g h0 (fun r τ => xFr (fun k => (7 ≤ k ∧ k < 107) ∨ k = 107 ∨ k = 115 ∨ k = 116 ∨ k = 130 ∨ k = 131 ∨ k = 132 ∨ k = 133 ∨ k = 134 ∨ k = 135 ∨ k = 156 ∨ k = 158 ∨ k = 159 ∨ k = 160 ∨ k = 163 ∨ k = 164 ∨ k = 165 ∨ k = 166 ∨ k = 167) s0 τ ∧ (((IC τ) ∧ True) ∧ (True)))) 0 0 (xA h0) := by
  refine x_met hσ (by decide) (Nat.le_of_ble_eq_true rfl) ?_
  intro p e s m args below meth c hx hb hr hml hown hT hlk hnm hE hW ls hl
  have hl : lv_has ls 5 [(0, .ref (h0 + 156)), (1, .int (xJ n))] := hl
  obtain ⟨Q, eQ⟩ : ∃ Q, Q = MQ below (xQi D g h0 (fun r τ => xFr (fun k => (7 ≤ k ∧ k < 107) ∨ k = 107 ∨ k = 115 ∨ k = 116 ∨ k = 130 ∨ k = 131 ∨ k = 132 ∨ k = 133 ∨ k = 134 ∨ k = 135 ∨ k = 156 ∨ k = 158 ∨ k = 159 ∨ k = 160 ∨ k = 163 ∨ k = 164 ∨ k = 165 ∨ k = 166 ∨ k = 167) s0 τ ∧ (((IC τ) ∧ True) ∧ (True)))) args s 0 0 (xA h0) := ⟨_, rfl⟩
  rw [← eQ]
  generalize hHe : ([] : List Loc) = locs at hW ⊢
  obtain ⟨H, eH⟩ : ∃ H, H = s.heap := ⟨_, rfl⟩
  rw [← eH] at hW ⊢
  have hF : xFr (fun k => (7 ≤ k ∧ k < 107) ∨ k = 107 ∨ k = 115 ∨ k = 116 ∨ k = 130 ∨ k = 131 ∨ k = 132 ∨ k = 133 ∨ k = 134 ∨ k = 135 ∨ k = 156 ∨ k = 158 ∨ k = 159 ∨ k = 160 ∨ k = 163 ∨ k = 164 ∨ k = 165 ∨ k = 166 ∨ k = 167) s0 s0 := xFr.rf
  have k1_1 : s0 1 1 = s0 1 1 := rfl
  refine x_aload_n hx hb hl 0 rfl dX3_bestAhead_0 rfl ?_
  refine x_get (j := 0) (v := .ref (h0 + 128)) hx hb hown hT hE hW cls_X3 (Or.inl (by decide)) (so_156 h0 g _) (by decide) rfl wq450 dX3_bestAhead_1 ?_
  refine x_aload_n hx hb hl 0 rfl dX3_bestAhead_4 rfl ?_
  refine x_gor (x_runV (As := []) hx hb hml hown hT hE hW hl.1 (Or.inl (by decide)) (so_156 h0 g _) rfl cf_X3_copyOfNow wq914 wq63 wq992 (c_X3_copyOfNow l D g T h0 s0 hW.2.1 p0) ⟨rfl, rfl, ⟨by decide, by decide⟩, ⟨by decide, by decide⟩⟩ rfl rfl (Nat.le_of_ble_eq_true rfl) dX3_bestAhead_5) hW (fun x1 s2 H locs hp3 hW => ?_)
  obtain ⟨ex1, hp3⟩ := hp3
  subst ex1
  obtain ⟨fs2, hp3⟩ := hp3
  have hF4 := hF.call fs2 (fun k h => by omega)
  have q5 : s2 1 1 = s0 1 1 := (congrFun (fs2 _ (by omega)) _).trans k1_1
  have ghp3 := hp3.2
  refine x_iload_n hx hb hl 1 rfl dX3_bestAhead_8 rfl ?_
  refine x_iconst hx hb dX3_bestAhead_9 ?_
  refine x_goi (x_runVN (As := [.ref (h0 + 158), .int (xJ n), .int (xJ (-1))]) hx hb hml hown hT hE hW hl.1 (Or.inl (by decide)) (so_128 h0 g _) rfl cf_X0_goOn wq761 wq34 wn1028 (c_X0_goOn l D g T h0 s2 hW.2.1 158 xd_158 n rn (-1) (by decide) hp3.1.1) ⟨rfl, rfl, ⟨by decide, by decide⟩, ⟨by decide, by decide⟩⟩ rfl rfl (Nat.le_of_ble_eq_true rfl) dX3_bestAhead_10) hW (fun x6 s7 H locs rx6 hp8 hW => ?_)
  obtain ⟨fs7, hp8⟩ := hp8
  have hF9 := hF4.call fs7 (fun k h => by omega)
  have q10 : s7 1 1 = s0 1 1 := (congrFun (fs7 _ (by omega)) _).trans q5
  have ghp8 := hp8.2
  refine lv_istore_n (lv' := [(2, .int (xJ x6)), (0, .ref (h0 + 156)), (1, .int (xJ n))]) hx hb dX3_bestAhead_13 rfl hl (by decide) rfl (fun ls hl => ?_)
  refine x_aload_n hx hb hl 1 rfl dX3_bestAhead_14 rfl ?_
  refine x_bipush hx hb dX3_bestAhead_15 (by decide) ?_
  refine x_put (j := 6) hx hb hown hT hE hW cls_X3 (by decide) (fun σ => so_156 h0 g σ) (by decide) (st_X3_6 h0 s7 156 (-2)) (ln_X3_6 h0 _ _) wq457 rfl rfl rfl (by decide) dX3_bestAhead_17 (fun H locs s11 es11 hW => ?_)
  have q12 : s11 1 1 = s0 1 1 := (show s11 1 1 = s7 1 1 from by rw [es11, xU_k _ _ _ (by omega)]).trans q10
  have q13 : IC s11 := by rw [es11]; exact IC_o (by decide) hp8.1.1
  have hF14 := hF9.put es11 (by omega)
  refine x_iconst hx hb dX3_bestAhead_20 ?_
  refine lv_istore_n (lv' := [(3, .int (xJ 0)), (2, .int (xJ x6)), (0, .ref (h0 + 156)), (1, .int (xJ n))]) hx hb dX3_bestAhead_21 rfl hl (by decide) rfl (fun ls hl => ?_)
  have L22 : ∀ (fu : Nat) (i2_22 : Int) (i3_22 : Int) (s_22 : xS) (H : Heap) (locs : List Loc) (ls : Array Slot), (xR i2_22) → (xR i3_22) → (xFr (fun k => (7 ≤ k ∧ k < 107) ∨ k = 107 ∨ k = 115 ∨ k = 116 ∨ k = 130 ∨ k = 131 ∨ k = 132 ∨ k = 133 ∨ k = 134 ∨ k = 135 ∨ k = 156 ∨ k = 158 ∨ k = 159 ∨ k = 160 ∨ k = 163 ∨ k = 164 ∨ k = 165 ∨ k = 166 ∨ k = 167) s0 s_22) → (s_22 1 1 = s0 1 1) → (IC s_22) → (0 ≤ i3_22) → (i3_22 ≤ 10) → (10 + 1 - i3_22).toNat < fu → xW D g h0 s H locs s_22 → lv_has ls 5 [(0, .ref (h0 + 156)), (1, .int (xJ n)), (2, .int (xJ i2_22)), (3, .int (xJ i3_22))] → W p l e { frames := 6, cells := 0, slots := 0, locals := 155 } s m args below meth c H locs 0 0 Q (F0 m 22 ls []) := by
    intro fu
    induction fu with
    | zero => intro i2_22 i3_22 s_22 H locs ls ri2_22 ri3_22 hF_22 q22_0 q22_1 v22_0 v22_1 hm; exact absurd hm (Nat.not_lt_zero _)
    | succ fu ih22 =>
      intro i2_22 i3_22 s_22 H locs ls ri2_22 ri3_22 hF_22 q22_0 q22_1 v22_0 v22_1 hm hW hl
      refine x_iload_n hx hb hl 3 rfl dX3_bestAhead_22 rfl ?_
      refine x_bipush hx hb dX3_bestAhead_23 (by decide) ?_
      refine x_icmp_ge (tgt := 77) hx hb ri3_22 (by decide) dX3_bestAhead_25 (by decide) (fun c15 => ?_) (fun c15 => ?_)
      · skip
        refine x_iload_n hx hb hl 2 rfl dX3_bestAhead_77 rfl ?_
        rw [eQ]
        exact x_iret hx hb hr hlk hW ri2_22 ⟨hF_22, ⟨q22_1, trivial⟩, trivial⟩ dX3_bestAhead_78
      refine x_aload_n hx hb hl 0 rfl dX3_bestAhead_28 rfl ?_
      refine x_get (j := 1) (v := .ref (h0 + 136)) hx hb hown hT hE hW cls_X3 (Or.inl (by decide)) (so_156 h0 g _) (by decide) rfl wq451 dX3_bestAhead_29 ?_
      refine x_iload_n hx hb hl 3 rfl dX3_bestAhead_32 rfl ?_
      refine x_goi (x_runVN (As := [.int (xJ i3_22)]) hx hb hml hown hT hE hW hl.1 (Or.inl (by decide)) (so_136 h0 g _) rfl cf_X2_mustServe wq858 wq52 wn1041 (c_X2_mustServe l D g T h0 s_22 hW.2.1 136 xd_136 i3_22 ri3_22 q22_1) ⟨rfl, rfl, ⟨by decide, by decide⟩, ⟨by decide, by decide⟩⟩ rfl rfl (Nat.le_of_ble_eq_true rfl) dX3_bestAhead_33) hW (fun x16 s17 H locs rx16 hp18 hW => ?_)
      obtain ⟨es17, hp18⟩ := hp18
      subst es17
      have ghp18 := hp18
      refine x_if_ne (tgt := 42) hx hb rx16 dX3_bestAhead_36 (by decide) (fun c19 => ?_) (fun c19 => ?_)
      · skip
        refine x_aload_n hx hb hl 0 rfl dX3_bestAhead_42 rfl ?_
        refine x_get (j := 0) (v := .ref (h0 + 128)) hx hb hown hT hE hW cls_X3 (Or.inl (by decide)) (so_156 h0 g _) (by decide) rfl wq450 dX3_bestAhead_43 ?_
        refine x_aload_n hx hb hl 0 rfl dX3_bestAhead_46 rfl ?_
        refine x_gor (x_runV (As := []) hx hb hml hown hT hE hW hl.1 (Or.inl (by decide)) (so_156 h0 g _) rfl cf_X3_copyOfNow wq914 wq63 wq992 (c_X3_copyOfNow l D g T h0 s_22 hW.2.1 q22_1) ⟨rfl, rfl, ⟨by decide, by decide⟩, ⟨by decide, by decide⟩⟩ rfl rfl (Nat.le_of_ble_eq_true rfl) dX3_bestAhead_47) hW (fun x20 s21 H locs hp22 hW => ?_)
        obtain ⟨ex20, hp22⟩ := hp22
        subst ex20
        obtain ⟨fs21, hp22⟩ := hp22
        have hF23 := hF_22.call fs21 (fun k h => by omega)
        have q24 : s21 1 1 = s0 1 1 := (congrFun (fs21 _ (by omega)) _).trans q22_0
        have ghp22 := hp22.2
        refine x_iload_n hx hb hl 1 rfl dX3_bestAhead_50 rfl ?_
        refine x_iload_n hx hb hl 3 rfl dX3_bestAhead_51 rfl ?_
        refine x_goi (x_runVN (As := [.ref (h0 + 158), .int (xJ n), .int (xJ i3_22)]) hx hb hml hown hT hE hW hl.1 (Or.inl (by decide)) (so_128 h0 g _) rfl cf_X0_goOn wq761 wq34 wn1028 (c_X0_goOn l D g T h0 s21 hW.2.1 158 xd_158 n rn i3_22 ri3_22 hp22.1.1) ⟨rfl, rfl, ⟨by decide, by decide⟩, ⟨by decide, by decide⟩⟩ rfl rfl (Nat.le_of_ble_eq_true rfl) dX3_bestAhead_52) hW (fun x25 s26 H locs rx25 hp27 hW => ?_)
        obtain ⟨fs26, hp27⟩ := hp27
        have hF28 := hF23.call fs26 (fun k h => by omega)
        have q29 : s26 1 1 = s0 1 1 := (congrFun (fs26 _ (by omega)) _).trans q24
        have ghp27 := hp27.2
        refine lv_istore (lv' := [(4, .int (xJ x25)), (0, .ref (h0 + 156)), (1, .int (xJ n)), (2, .int (xJ i2_22)), (3, .int (xJ i3_22))]) hx hb dX3_bestAhead_55 hl (by decide) rfl (fun ls hl => ?_)
        refine x_iload hx hb hl 0 rfl dX3_bestAhead_57 ?_
        refine x_iload_n hx hb hl 3 rfl dX3_bestAhead_59 rfl ?_
        refine x_icmp_le (tgt := 71) hx hb rx25 ri2_22 dX3_bestAhead_60 (by decide) (fun c30 => ?_) (fun c30 => ?_)
        · skip
          refine x_iinc (lv' := [(3, .int (xJ (i3_22 + 1))), (4, .int (xJ x25)), (0, .ref (h0 + 156)), (1, .int (xJ n)), (2, .int (xJ i2_22))]) hx hb hl 4 rfl dX3_bestAhead_71 (by decide) rfl (fun ls hl => ?_)
          refine lv_goto (tgt := 22) hx hb dX3_bestAhead_74 (by decide) ?_
          exact ih22 i2_22 (i3_22 + 1) s26 H locs ls ri2_22 (by omega) hF28 q29 hp27.1.1 (by omega) (by omega) (by omega) hW (lv_sub hl [2, 3, 4, 0] rfl)
        refine x_iload hx hb hl 0 rfl dX3_bestAhead_63 ?_
        refine lv_istore_n (lv' := [(2, .int (xJ x25)), (4, .int (xJ x25)), (0, .ref (h0 + 156)), (1, .int (xJ n)), (3, .int (xJ i3_22))]) hx hb dX3_bestAhead_65 rfl hl (by decide) rfl (fun ls hl => ?_)
        refine x_aload_n hx hb hl 2 rfl dX3_bestAhead_66 rfl ?_
        refine x_iload_n hx hb hl 4 rfl dX3_bestAhead_67 rfl ?_
        refine x_put (j := 6) hx hb hown hT hE hW cls_X3 (by decide) (fun σ => so_156 h0 g σ) (by decide) (st_X3_6 h0 s26 156 i3_22) (ln_X3_6 h0 _ _) wq457 rfl rfl rfl ri3_22 dX3_bestAhead_68 (fun H locs s31 es31 hW => ?_)
        have q32 : s31 1 1 = s0 1 1 := (show s31 1 1 = s26 1 1 from by rw [es31, xU_k _ _ _ (by omega)]).trans q29
        have q33 : IC s31 := by rw [es31]; exact IC_o (by decide) hp27.1.1
        have hF34 := hF28.put es31 (by omega)
        refine x_iinc (lv' := [(3, .int (xJ (i3_22 + 1))), (2, .int (xJ x25)), (4, .int (xJ x25)), (0, .ref (h0 + 156)), (1, .int (xJ n))]) hx hb hl 4 rfl dX3_bestAhead_71 (by decide) rfl (fun ls hl => ?_)
        refine lv_goto (tgt := 22) hx hb dX3_bestAhead_74 (by decide) ?_
        exact ih22 x25 (i3_22 + 1) s31 H locs ls rx25 (by omega) hF34 q32 q33 (by omega) (by omega) (by omega) hW (lv_sub hl [3, 4, 1, 0] rfl)
      refine lv_goto (tgt := 71) hx hb dX3_bestAhead_39 (by decide) ?_
      refine x_iinc (lv' := [(3, .int (xJ (i3_22 + 1))), (0, .ref (h0 + 156)), (1, .int (xJ n)), (2, .int (xJ i2_22))]) hx hb hl 3 rfl dX3_bestAhead_71 (by decide) rfl (fun ls hl => ?_)
      refine lv_goto (tgt := 22) hx hb dX3_bestAhead_74 (by decide) ?_
      exact ih22 i2_22 (i3_22 + 1) s_22 H locs ls ri2_22 (by omega) hF_22 q22_0 q22_1 (by omega) (by omega) (by omega) hW (lv_sub hl [1, 2, 3, 0] rfl)
  exact L22 ((10 + 1 - 0 : Int).toNat + 1) x6 0 s11 H locs ls rx6 (by decide) hF14 q12 q13 (by omega) (by omega) (Nat.lt_succ_self _) hW (lv_sub hl [2, 3, 1, 0] rfl)
set_option maxHeartbeats 4000000 in
set_option maxRecDepth 100000 in
theorem c_X3_countShadedMinutes (l : Launch) (D : va_G) (g : xG) (T : Nat × Nat × Nat) (h0 : Nat) (s0 : xS) (hσ : xRR s0) (n : Int) (rn : xR n) (p0 : IC s0) : Met l yX3_countShadedMinutes (xws yX3_countShadedMinutes cX3_countShadedMinutes 6 none) { frames := 5, cells := 0, slots := 0, locals := 120 } (xP [.ref (h0 + 156), .int (xJ n)] D g T h0 s0) (xQv D g h0 (fun τ => xFr (fun k => k = 115 ∨ k = 116 ∨ k = 130 ∨ k = 131 ∨ k = 132 ∨ k = 133 ∨ k = 158 ∨ k = 159 ∨ k = 160 ∨ k = 163 ∨ k = 164 ∨ k = 165 ∨ k = 166 ∨ k = 167 ∨ k = 226) s0 τ ∧ (((IC τ) ∧ True) ∧ (True)))) 0 0 (xA h0) := by
  refine x_met hσ (by decide) (Nat.le_of_ble_eq_true rfl) ?_
  intro p e s m args below meth c hx hb hr hml hown hT hlk hnm hE hW ls hl
  have hl : lv_has ls 6 [(0, .ref (h0 + 156)), (1, .int (xJ n))] := hl
  obtain ⟨Q, eQ⟩ : ∃ Q, Q = MQ below (xQv D g h0 (fun τ => xFr (fun k => k = 115 ∨ k = 116 ∨ k = 130 ∨ k = 131 ∨ k = 132 ∨ k = 133 ∨ k = 158 ∨ k = 159 ∨ k = 160 ∨ k = 163 ∨ k = 164 ∨ k = 165 ∨ k = 166 ∨ k = 167 ∨ k = 226) s0 τ ∧ (((IC τ) ∧ True) ∧ (True)))) args s 0 0 (xA h0) := ⟨_, rfl⟩
  rw [← eQ]
  generalize hHe : ([] : List Loc) = locs at hW ⊢
  obtain ⟨H, eH⟩ : ∃ H, H = s.heap := ⟨_, rfl⟩
  rw [← eH] at hW ⊢
  have hF : xFr (fun k => k = 115 ∨ k = 116 ∨ k = 130 ∨ k = 131 ∨ k = 132 ∨ k = 133 ∨ k = 158 ∨ k = 159 ∨ k = 160 ∨ k = 163 ∨ k = 164 ∨ k = 165 ∨ k = 166 ∨ k = 167 ∨ k = 226) s0 s0 := xFr.rf
  have k1_1 : s0 1 1 = s0 1 1 := rfl
  refine x_iconst hx hb dX3_countShadedMinutes_0 ?_
  refine lv_istore_n (lv' := [(2, .int (xJ 0)), (0, .ref (h0 + 156)), (1, .int (xJ n))]) hx hb dX3_countShadedMinutes_1 rfl hl (by decide) rfl (fun ls hl => ?_)
  have L2 : ∀ (fu : Nat) (i2_2 : Int) (s_2 : xS) (H : Heap) (locs : List Loc) (ls : Array Slot), (xR i2_2) → (xFr (fun k => k = 115 ∨ k = 116 ∨ k = 130 ∨ k = 131 ∨ k = 132 ∨ k = 133 ∨ k = 158 ∨ k = 159 ∨ k = 160 ∨ k = 163 ∨ k = 164 ∨ k = 165 ∨ k = 166 ∨ k = 167 ∨ k = 226) s0 s_2) → (IC s_2) → (s_2 1 1 = s0 1 1) → (0 ≤ i2_2) → (i2_2 ≤ 100) → (100 + 1 - i2_2).toNat < fu → xW D g h0 s H locs s_2 → lv_has ls 6 [(0, .ref (h0 + 156)), (1, .int (xJ n)), (2, .int (xJ i2_2))] → W p l e { frames := 5, cells := 0, slots := 0, locals := 120 } s m args below meth c H locs 0 0 Q (F0 m 2 ls []) := by
    intro fu
    induction fu with
    | zero => intro i2_2 s_2 H locs ls ri2_2 hF_2 q2_0 q2_1 v2_0 v2_1 hm; exact absurd hm (Nat.not_lt_zero _)
    | succ fu ih2 =>
      intro i2_2 s_2 H locs ls ri2_2 hF_2 q2_0 q2_1 v2_0 v2_1 hm hW hl
      refine x_iload_n hx hb hl 2 rfl dX3_countShadedMinutes_2 rfl ?_
      refine x_bipush hx hb dX3_countShadedMinutes_3 (by decide) ?_
      refine x_icmp_ge (tgt := 21) hx hb ri2_2 (by decide) dX3_countShadedMinutes_5 (by decide) (fun c1 => ?_) (fun c1 => ?_)
      · skip
        refine x_aload_n hx hb hl 0 rfl dX3_countShadedMinutes_21 rfl ?_
        refine x_gor (x_runV (As := []) hx hb hml hown hT hE hW hl.1 (Or.inl (by decide)) (so_156 h0 g _) rfl cf_X3_copyOfNow wq914 wq63 wq992 (c_X3_copyOfNow l D g T h0 s_2 hW.2.1 q2_0) ⟨rfl, rfl, ⟨by decide, by decide⟩, ⟨by decide, by decide⟩⟩ rfl rfl (Nat.le_of_ble_eq_true rfl) dX3_countShadedMinutes_22) hW (fun x2 s3 H locs hp4 hW => ?_)
        obtain ⟨ex2, hp4⟩ := hp4
        subst ex2
        obtain ⟨fs3, hp4⟩ := hp4
        have hF5 := hF_2.call fs3 (fun k h => by omega)
        have q6 : s3 1 1 = s0 1 1 := (congrFun (fs3 _ (by omega)) _).trans q2_1
        have ghp4 := hp4.2
        refine lv_astore_n (lv' := [(2, .ref (h0 + 158)), (0, .ref (h0 + 156)), (1, .int (xJ n))]) hx hb dX3_countShadedMinutes_25 rfl hl (by decide) rfl (fun ls hl => ?_)
        refine x_iconst hx hb dX3_countShadedMinutes_26 ?_
        refine lv_istore_n (lv' := [(3, .int (xJ 0)), (2, .ref (h0 + 158)), (0, .ref (h0 + 156)), (1, .int (xJ n))]) hx hb dX3_countShadedMinutes_27 rfl hl (by decide) rfl (fun ls hl => ?_)
        have L28 : ∀ (fu : Nat) (i3_28 : Int) (s_28 : xS) (H : Heap) (locs : List Loc) (ls : Array Slot), (xR i3_28) → (xFr (fun k => k = 115 ∨ k = 116 ∨ k = 130 ∨ k = 131 ∨ k = 132 ∨ k = 133 ∨ k = 158 ∨ k = 159 ∨ k = 160 ∨ k = 163 ∨ k = 164 ∨ k = 165 ∨ k = 166 ∨ k = 167 ∨ k = 226) s0 s_28) → (s_28 1 1 = s0 1 1) → (IC s_28) → (0 ≤ i3_28) → (n + 1 - i3_28).toNat < fu → xW D g h0 s H locs s_28 → lv_has ls 6 [(0, .ref (h0 + 156)), (1, .int (xJ n)), (2, .ref (h0 + 158)), (3, .int (xJ i3_28))] → W p l e { frames := 5, cells := 0, slots := 0, locals := 120 } s m args below meth c H locs 0 0 Q (F0 m 28 ls []) := by
          intro fu
          induction fu with
          | zero => intro i3_28 s_28 H locs ls ri3_28 hF_28 q28_0 q28_1 v28_0 hm; exact absurd hm (Nat.not_lt_zero _)
          | succ fu ih28 =>
            intro i3_28 s_28 H locs ls ri3_28 hF_28 q28_0 q28_1 v28_0 hm hW hl
            refine x_iload_n hx hb hl 3 rfl dX3_countShadedMinutes_28 rfl ?_
            refine x_iload_n hx hb hl 1 rfl dX3_countShadedMinutes_29 rfl ?_
            refine x_icmp_ge (tgt := 115) hx hb ri3_28 rn dX3_countShadedMinutes_30 (by decide) (fun c7 => ?_) (fun c7 => ?_)
            · skip
              rw [eQ]
              exact x_vret hx hb hr hlk hW ⟨hF_28, ⟨q28_1, trivial⟩, trivial⟩ dX3_countShadedMinutes_115
            refine x_aload_n hx hb hl 0 rfl dX3_countShadedMinutes_33 rfl ?_
            refine x_get (j := 0) (v := .ref (h0 + 128)) hx hb hown hT hE hW cls_X3 (Or.inl (by decide)) (so_156 h0 g _) (by decide) rfl wq450 dX3_countShadedMinutes_34 ?_
            refine x_aload_n hx hb hl 2 rfl dX3_countShadedMinutes_37 rfl ?_
            refine x_goi (x_runVN (As := [.ref (h0 + 158)]) hx hb hml hown hT hE hW hl.1 (Or.inl (by decide)) (so_128 h0 g _) rfl cf_X0_walkOn wq995 wq76 wn993 (c_X0_walkOn l D g T h0 s_28 hW.2.1 158 xd_158 q28_1) ⟨rfl, rfl, ⟨by decide, by decide⟩, ⟨by decide, by decide⟩⟩ rfl rfl (Nat.le_of_ble_eq_true rfl) dX3_countShadedMinutes_38) hW (fun x8 s9 H locs rx8 hp10 hW => ?_)
            obtain ⟨fs9, hp10⟩ := hp10
            have hF11 := hF_28.call fs9 (fun k h => by omega)
            have q12 : s9 1 1 = s0 1 1 := (congrFun (fs9 _ (by omega)) _).trans q28_0
            have ghp10 := hp10.2
            refine x_if_eq (tgt := 115) hx hb rx8 dX3_countShadedMinutes_41 (by decide) (fun c13 => ?_) (fun c13 => ?_)
            · skip
              rw [eQ]
              exact x_vret hx hb hr hlk hW ⟨hF11, ⟨hp10.1.1, trivial⟩, trivial⟩ dX3_countShadedMinutes_115
            refine x_iconst hx hb dX3_countShadedMinutes_44 ?_
            refine lv_istore (lv' := [(4, .int (xJ 0)), (0, .ref (h0 + 156)), (1, .int (xJ n)), (2, .ref (h0 + 158)), (3, .int (xJ i3_28))]) hx hb dX3_countShadedMinutes_45 hl (by decide) rfl (fun ls hl => ?_)
            have L47 : ∀ (fu : Nat) (i4_47 : Int) (s_47 : xS) (H : Heap) (locs : List Loc) (ls : Array Slot), (xR i4_47) → (xFr (fun k => k = 115 ∨ k = 116 ∨ k = 130 ∨ k = 131 ∨ k = 132 ∨ k = 133 ∨ k = 158 ∨ k = 159 ∨ k = 160 ∨ k = 163 ∨ k = 164 ∨ k = 165 ∨ k = 166 ∨ k = 167 ∨ k = 226) s0 s_47) → (s_47 1 1 = s0 1 1) → (IC s_47) → (0 ≤ i4_47) → (100 - i4_47).toNat < fu → xW D g h0 s H locs s_47 → lv_has ls 6 [(0, .ref (h0 + 156)), (1, .int (xJ n)), (2, .ref (h0 + 158)), (3, .int (xJ i3_28)), (4, .int (xJ i4_47))] → W p l e { frames := 5, cells := 0, slots := 0, locals := 120 } s m args below meth c H locs 0 0 Q (F0 m 47 ls []) := by
              intro fu
              induction fu with
              | zero => intro i4_47 s_47 H locs ls ri4_47 hF_47 q47_0 q47_1 v47_0 hm; exact absurd hm (Nat.not_lt_zero _)
              | succ fu ih47 =>
                intro i4_47 s_47 H locs ls ri4_47 hF_47 q47_0 q47_1 v47_0 hm hW hl
                refine x_iload hx hb hl 4 rfl dX3_countShadedMinutes_47 ?_
                refine x_aload_n hx hb hl 0 rfl dX3_countShadedMinutes_49 rfl ?_
                refine x_get (j := 0) (v := .ref (h0 + 128)) hx hb hown hT hE hW cls_X3 (Or.inl (by decide)) (so_156 h0 g _) (by decide) rfl wq450 dX3_countShadedMinutes_50 ?_
                refine x_getN (j := 3) (v := .ref (h0 + 130)) hx hb hown hT hE hW cls_X0 (Or.inl (by decide)) (so_128 h0 g _) (by decide) rfl wn359 dX3_countShadedMinutes_53 ?_
                refine x_getN (j := 3) (v := .int (xJ (s_47 130 3))) hx hb hown hT hE hW cls_X7 (Or.inl (by decide)) (so_130 h0 g _) (by decide) rfl wn339 dX3_countShadedMinutes_56 ?_
                refine x_rd hW (fun x14 ex14 rx14 => ?_)
                have bx14 : 0 ≤ x14 ∧ x14 ≤ 100 := by rw [ex14]; exact IC.z q47_1
                refine x_icmp_ge (tgt := 109) hx hb ri4_47 rx14 dX3_countShadedMinutes_59 (by decide) (fun c15 => ?_) (fun c15 => ?_)
                · skip
                  refine x_iinc (lv' := [(3, .int (xJ (i3_28 + 1))), (0, .ref (h0 + 156)), (1, .int (xJ n)), (2, .ref (h0 + 158)), (4, .int (xJ i4_47))]) hx hb hl 3 rfl dX3_countShadedMinutes_109 (by decide) rfl (fun ls hl => ?_)
                  refine lv_goto (tgt := 28) hx hb dX3_countShadedMinutes_112 (by decide) ?_
                  exact ih28 (i3_28 + 1) s_47 H locs ls (by omega) hF_47 q47_0 q47_1 (by omega) (by omega) hW (lv_sub hl [1, 2, 3, 0] rfl)
                refine x_iload hx hb hl 4 rfl dX3_countShadedMinutes_62 ?_
                refine x_bipush hx hb dX3_countShadedMinutes_64 (by decide) ?_
                refine x_icmp_ge (tgt := 109) hx hb ri4_47 (by decide) dX3_countShadedMinutes_66 (by decide) (fun c16 => ?_) (fun c16 => ?_)
                · skip
                  refine x_iinc (lv' := [(3, .int (xJ (i3_28 + 1))), (0, .ref (h0 + 156)), (1, .int (xJ n)), (2, .ref (h0 + 158)), (4, .int (xJ i4_47))]) hx hb hl 3 rfl dX3_countShadedMinutes_109 (by decide) rfl (fun ls hl => ?_)
                  refine lv_goto (tgt := 28) hx hb dX3_countShadedMinutes_112 (by decide) ?_
                  exact ih28 (i3_28 + 1) s_47 H locs ls (by omega) hF_47 q47_0 q47_1 (by omega) (by omega) hW (lv_sub hl [1, 2, 3, 0] rfl)
                refine x_aload_n hx hb hl 0 rfl dX3_countShadedMinutes_69 rfl ?_
                refine x_get (j := 0) (v := .ref (h0 + 128)) hx hb hown hT hE hW cls_X3 (Or.inl (by decide)) (so_156 h0 g _) (by decide) rfl wq450 dX3_countShadedMinutes_70 ?_
                refine x_getN (j := 3) (v := .ref (h0 + 130)) hx hb hown hT hE hW cls_X0 (Or.inl (by decide)) (so_128 h0 g _) (by decide) rfl wn359 dX3_countShadedMinutes_73 ?_
                refine x_getN (j := 1) (v := .ref (h0 + 132)) hx hb hown hT hE hW cls_X7 (Or.inl (by decide)) (so_130 h0 g _) (by decide) rfl wn333 dX3_countShadedMinutes_76 ?_
                refine x_iload hx hb hl 4 rfl dX3_countShadedMinutes_79 ?_
                refine x_iald hx hb hE hW (Or.inl (by decide)) (sa_132 h0 g _) (by omega) (by decide) dX3_countShadedMinutes_81 ?_
                refine x_rd hW (fun x17 ex17 rx17 => ?_)
                refine lv_istore (lv' := [(5, .int (xJ x17)), (0, .ref (h0 + 156)), (1, .int (xJ n)), (2, .ref (h0 + 158)), (3, .int (xJ i3_28)), (4, .int (xJ i4_47))]) hx hb dX3_countShadedMinutes_82 hl (by decide) rfl (fun ls hl => ?_)
                refine x_iload hx hb hl 0 rfl dX3_countShadedMinutes_84 ?_
                refine x_goi (x_runSN (As := [.int (xJ x17)]) hx hb hml hown hT hE hW hl.1 cf_X6_isSpot wq831 wn990 (c_X6_isSpot l D g T h0 s_47 hW.2.1 x17 rx17) ⟨rfl, rfl, ⟨by decide, by decide⟩, ⟨by decide, by decide⟩⟩ rfl rfl (Nat.le_of_ble_eq_true rfl) dX3_countShadedMinutes_86) hW (fun x18 s19 H locs rx18 hp20 hW => ?_)
                obtain ⟨es19, hp20⟩ := hp20
                subst es19
                have ghp20 := hp20
                refine x_if_eq (tgt := 103) hx hb rx18 dX3_countShadedMinutes_89 (by decide) (fun c21 => ?_) (fun c21 => ?_)
                · skip
                  refine x_iinc (lv' := [(4, .int (xJ (i4_47 + 1))), (5, .int (xJ x17)), (0, .ref (h0 + 156)), (1, .int (xJ n)), (2, .ref (h0 + 158)), (3, .int (xJ i3_28))]) hx hb hl 5 rfl dX3_countShadedMinutes_103 (by decide) rfl (fun ls hl => ?_)
                  refine lv_goto (tgt := 47) hx hb dX3_countShadedMinutes_106 (by decide) ?_
                  exact ih47 (i4_47 + 1) s_47 H locs ls (by omega) hF_47 q47_0 q47_1 (by omega) (by omega) hW (lv_sub hl [2, 3, 4, 5, 0] rfl)
                refine x_aload_n hx hb hl 1 rfl dX3_countShadedMinutes_92 rfl ?_
                refine x_get (j := 7) (v := .ref (h0 + 226)) hx hb hown hT hE hW cls_X3 (Or.inl (by decide)) (so_156 h0 g _) (by decide) rfl wq459 dX3_countShadedMinutes_93 ?_
                refine x_iload hx hb hl 0 rfl dX3_countShadedMinutes_96 ?_
                refine lv_dup2_11 hx hb dX3_countShadedMinutes_98 rfl rfl ?_
                refine x_iald hx hb hE hW (Or.inl (by decide)) (sa_226 h0 g _) (by omega) (by decide) dX3_countShadedMinutes_99 ?_
                refine x_rd hW (fun x22 ex22 rx22 => ?_)
                refine x_iconst hx hb dX3_countShadedMinutes_100 ?_
                refine x_iadd hx hb dX3_countShadedMinutes_101 ?_
                refine x_any (fun x23 rx23 => ?_)
                refine x_iast hx hb hE hW (by decide) (fun σ => sa_226 h0 g σ) (by omega) (by decide) rx23 dX3_countShadedMinutes_102 (fun H locs s24 es24 hW => ?_)
                have q25 : s24 1 1 = s0 1 1 := (show s24 1 1 = s_47 1 1 from by rw [es24, xU_k _ _ _ (by omega)]).trans q47_0
                have q26 : IC s24 := by rw [es24]; exact IC_o (by decide) q47_1
                have hF27 := hF_47.put es24 (by omega)
                refine x_iinc (lv' := [(4, .int (xJ (i4_47 + 1))), (5, .int (xJ x17)), (0, .ref (h0 + 156)), (1, .int (xJ n)), (2, .ref (h0 + 158)), (3, .int (xJ i3_28))]) hx hb hl 5 rfl dX3_countShadedMinutes_103 (by decide) rfl (fun ls hl => ?_)
                refine lv_goto (tgt := 47) hx hb dX3_countShadedMinutes_106 (by decide) ?_
                exact ih47 (i4_47 + 1) s24 H locs ls (by omega) hF27 q25 q26 (by omega) (by omega) hW (lv_sub hl [2, 3, 4, 5, 0] rfl)
            exact L47 ((100 - 0 : Int).toNat + 1) 0 s9 H locs ls (by decide) hF11 q12 hp10.1.1 (by omega) (Nat.lt_succ_self _) hW (lv_sub hl [1, 2, 3, 4, 0] rfl)
        exact L28 ((n + 1 - 0 : Int).toNat + 1) 0 s3 H locs ls (by decide) hF5 q6 hp4.1.1 (by omega) (Nat.lt_succ_self _) hW (lv_sub hl [2, 3, 1, 0] rfl)
      refine x_aload_n hx hb hl 0 rfl dX3_countShadedMinutes_8 rfl ?_
      refine x_get (j := 7) (v := .ref (h0 + 226)) hx hb hown hT hE hW cls_X3 (Or.inl (by decide)) (so_156 h0 g _) (by decide) rfl wq459 dX3_countShadedMinutes_9 ?_
      refine x_iload_n hx hb hl 2 rfl dX3_countShadedMinutes_12 rfl ?_
      refine x_iconst hx hb dX3_countShadedMinutes_13 ?_
      refine x_iast hx hb hE hW (by decide) (fun σ => sa_226 h0 g σ) (by omega) (by decide) (by decide) dX3_countShadedMinutes_14 (fun H locs s28 es28 hW => ?_)
      have q29 : IC s28 := by rw [es28]; exact IC_o (by decide) q2_0
      have q30 : s28 1 1 = s0 1 1 := (show s28 1 1 = s_2 1 1 from by rw [es28, xU_k _ _ _ (by omega)]).trans q2_1
      have hF31 := hF_2.put es28 (by omega)
      refine x_iinc (lv' := [(2, .int (xJ (i2_2 + 1))), (0, .ref (h0 + 156)), (1, .int (xJ n))]) hx hb hl 2 rfl dX3_countShadedMinutes_15 (by decide) rfl (fun ls hl => ?_)
      refine lv_goto (tgt := 2) hx hb dX3_countShadedMinutes_18 (by decide) ?_
      exact ih2 (i2_2 + 1) s28 H locs ls (by omega) hF31 q29 q30 (by omega) (by omega) (by omega) hW (lv_sub hl [1, 2, 0] rfl)
  exact L2 ((100 + 1 - 0 : Int).toNat + 1) 0 s0 H locs ls (by decide) hF p0 k1_1 (by omega) (by omega) (Nat.lt_succ_self _) hW (lv_sub hl [1, 2, 0] rfl)
set_option maxHeartbeats 4000000 in
set_option maxRecDepth 100000 in
theorem c_X3_howManyNeverShaded (l : Launch) (D : va_G) (g : xG) (T : Nat × Nat × Nat) (h0 : Nat) (s0 : xS) (hσ : xRR s0) (p0 : IC s0) : Met l yX3_howManyNeverShaded (xws yX3_howManyNeverShaded cX3_howManyNeverShaded 3 (some .int)) { frames := 1, cells := 0, slots := 0, locals := 21 } (xP [.ref (h0 + 156)] D g T h0 s0) (xQi D g h0 (fun r τ => s0 = τ ∧ (True))) 0 0 (xA h0) := by
  refine x_met hσ (by decide) (Nat.le_of_ble_eq_true rfl) ?_
  intro p e s m args below meth c hx hb hr hml hown hT hlk hnm hE hW ls hl
  have hl : lv_has ls 3 [(0, .ref (h0 + 156))] := hl
  obtain ⟨Q, eQ⟩ : ∃ Q, Q = MQ below (xQi D g h0 (fun r τ => s0 = τ ∧ (True))) args s 0 0 (xA h0) := ⟨_, rfl⟩
  rw [← eQ]
  generalize hHe : ([] : List Loc) = locs at hW ⊢
  obtain ⟨H, eH⟩ : ∃ H, H = s.heap := ⟨_, rfl⟩
  rw [← eH] at hW ⊢
  have k1_1 : s0 1 1 = s0 1 1 := rfl
  refine x_iconst hx hb dX3_howManyNeverShaded_0 ?_
  refine lv_istore_n (lv' := [(1, .int (xJ 0)), (0, .ref (h0 + 156))]) hx hb dX3_howManyNeverShaded_1 rfl hl (by decide) rfl (fun ls hl => ?_)
  refine x_iconst hx hb dX3_howManyNeverShaded_2 ?_
  refine lv_istore_n (lv' := [(2, .int (xJ 0)), (1, .int (xJ 0)), (0, .ref (h0 + 156))]) hx hb dX3_howManyNeverShaded_3 rfl hl (by decide) rfl (fun ls hl => ?_)
  have L4 : ∀ (fu : Nat) (i1_4 : Int) (i2_4 : Int) (H : Heap) (locs : List Loc) (ls : Array Slot), (xR i1_4) → (xR i2_4) → (0 ≤ i2_4) → (i2_4 ≤ 100) → (0 ≤ i1_4 ∧ i1_4 ≤ i2_4) → (100 + 1 - i2_4).toNat < fu → xW D g h0 s H locs s0 → lv_has ls 3 [(0, .ref (h0 + 156)), (1, .int (xJ i1_4)), (2, .int (xJ i2_4))] → W p l e { frames := 1, cells := 0, slots := 0, locals := 21 } s m args below meth c H locs 0 0 Q (F0 m 4 ls []) := by
    intro fu
    induction fu with
    | zero => intro i1_4 i2_4 H locs ls ri1_4 ri2_4 v4_0 v4_1 v4_2 hm; exact absurd hm (Nat.not_lt_zero _)
    | succ fu ih4 =>
      intro i1_4 i2_4 H locs ls ri1_4 ri2_4 v4_0 v4_1 v4_2 hm hW hl
      refine x_iload_n hx hb hl 2 rfl dX3_howManyNeverShaded_4 rfl ?_
      refine x_bipush hx hb dX3_howManyNeverShaded_5 (by decide) ?_
      refine x_icmp_ge (tgt := 48) hx hb ri2_4 (by decide) dX3_howManyNeverShaded_7 (by decide) (fun c1 => ?_) (fun c1 => ?_)
      · skip
        refine x_iload_n hx hb hl 1 rfl dX3_howManyNeverShaded_48 rfl ?_
        rw [eQ]
        exact x_iret hx hb hr hlk hW ri1_4 ⟨rfl, trivial⟩ dX3_howManyNeverShaded_49
      refine x_iload_n hx hb hl 1 rfl dX3_howManyNeverShaded_10 rfl ?_
      refine x_aload_n hx hb hl 0 rfl dX3_howManyNeverShaded_11 rfl ?_
      refine x_get (j := 0) (v := .ref (h0 + 128)) hx hb hown hT hE hW cls_X3 (Or.inl (by decide)) (so_156 h0 g _) (by decide) rfl wq450 dX3_howManyNeverShaded_12 ?_
      refine x_getN (j := 0) (v := .ref (h0 + 3)) hx hb hown hT hE hW cls_X0 (Or.inl (by decide)) (so_128 h0 g _) (by decide) rfl wn353 dX3_howManyNeverShaded_15 ?_
      refine x_iload_n hx hb hl 2 rfl dX3_howManyNeverShaded_18 rfl ?_
      refine x_goi (x_runVN (As := [.int (xJ i2_4)]) hx hb hml hown hT hE hW hl.1 (Or.inl (by decide)) (so_3 h0 g _) rfl cf_X6_kindAt wq619 wq10 wn1054 (c_X6_kindAt l D g T h0 s0 hW.2.1 i2_4 ri2_4 p0) ⟨rfl, rfl, ⟨by decide, by decide⟩, ⟨by decide, by decide⟩⟩ rfl rfl (Nat.le_of_ble_eq_true rfl) dX3_howManyNeverShaded_19) hW (fun x2 s3 H locs rx2 hp4 hW => ?_)
      obtain ⟨es3, hp4⟩ := hp4
      subst es3
      have ghp4 := hp4
      refine x_iconst hx hb dX3_howManyNeverShaded_22 ?_
      refine x_icmp_eq (tgt := 39) hx hb rx2 (by decide) dX3_howManyNeverShaded_23 (by decide) (fun c5 => ?_) (fun c5 => ?_)
      · skip
        refine x_iconst hx hb dX3_howManyNeverShaded_39 ?_
        refine x_iadd hx hb dX3_howManyNeverShaded_40 ?_
        refine x_nm (fun x6 ex6 => ?_)
        refine lv_istore_n (lv' := [(1, .int (xJ x6)), (0, .ref (h0 + 156)), (2, .int (xJ i2_4))]) hx hb dX3_howManyNeverShaded_41 rfl hl (by decide) rfl (fun ls hl => ?_)
        refine x_iinc (lv' := [(2, .int (xJ (i2_4 + 1))), (1, .int (xJ x6)), (0, .ref (h0 + 156))]) hx hb hl 2 rfl dX3_howManyNeverShaded_42 (by decide) rfl (fun ls hl => ?_)
        refine lv_goto (tgt := 4) hx hb dX3_howManyNeverShaded_45 (by decide) ?_
        exact ih4 x6 (i2_4 + 1) H locs ls (by omega) (by omega) (by omega) (by omega) (by omega) (by omega) hW (lv_sub hl [2, 1, 0] rfl)
      refine x_aload_n hx hb hl 0 rfl dX3_howManyNeverShaded_26 rfl ?_
      refine x_get (j := 7) (v := .ref (h0 + 226)) hx hb hown hT hE hW cls_X3 (Or.inl (by decide)) (so_156 h0 g _) (by decide) rfl wq459 dX3_howManyNeverShaded_27 ?_
      refine x_iload_n hx hb hl 2 rfl dX3_howManyNeverShaded_30 rfl ?_
      refine x_iald hx hb hE hW (Or.inl (by decide)) (sa_226 h0 g _) (by omega) (by decide) dX3_howManyNeverShaded_31 ?_
      refine x_rd hW (fun x7 ex7 rx7 => ?_)
      refine x_if_ne (tgt := 39) hx hb rx7 dX3_howManyNeverShaded_32 (by decide) (fun c8 => ?_) (fun c8 => ?_)
      · skip
        refine x_iconst hx hb dX3_howManyNeverShaded_39 ?_
        refine x_iadd hx hb dX3_howManyNeverShaded_40 ?_
        refine x_nm (fun x9 ex9 => ?_)
        refine lv_istore_n (lv' := [(1, .int (xJ x9)), (0, .ref (h0 + 156)), (2, .int (xJ i2_4))]) hx hb dX3_howManyNeverShaded_41 rfl hl (by decide) rfl (fun ls hl => ?_)
        refine x_iinc (lv' := [(2, .int (xJ (i2_4 + 1))), (1, .int (xJ x9)), (0, .ref (h0 + 156))]) hx hb hl 2 rfl dX3_howManyNeverShaded_42 (by decide) rfl (fun ls hl => ?_)
        refine lv_goto (tgt := 4) hx hb dX3_howManyNeverShaded_45 (by decide) ?_
        exact ih4 x9 (i2_4 + 1) H locs ls (by omega) (by omega) (by omega) (by omega) (by omega) (by omega) hW (lv_sub hl [2, 1, 0] rfl)
      refine x_iconst hx hb dX3_howManyNeverShaded_35 ?_
      refine lv_goto (tgt := 40) hx hb dX3_howManyNeverShaded_36 (by decide) ?_
      refine x_iadd hx hb dX3_howManyNeverShaded_40 ?_
      refine x_nm (fun x10 ex10 => ?_)
      refine lv_istore_n (lv' := [(1, .int (xJ x10)), (0, .ref (h0 + 156)), (2, .int (xJ i2_4))]) hx hb dX3_howManyNeverShaded_41 rfl hl (by decide) rfl (fun ls hl => ?_)
      refine x_iinc (lv' := [(2, .int (xJ (i2_4 + 1))), (1, .int (xJ x10)), (0, .ref (h0 + 156))]) hx hb hl 2 rfl dX3_howManyNeverShaded_42 (by decide) rfl (fun ls hl => ?_)
      refine lv_goto (tgt := 4) hx hb dX3_howManyNeverShaded_45 (by decide) ?_
      exact ih4 x10 (i2_4 + 1) H locs ls (by omega) (by omega) (by omega) (by omega) (by omega) (by omega) hW (lv_sub hl [2, 1, 0] rfl)
  exact L4 ((100 + 1 - 0 : Int).toNat + 1) 0 0 H locs ls (by decide) (by decide) (by omega) (by omega) (by omega) (Nat.lt_succ_self _) hW (lv_sub hl [2, 1, 0] rfl)
set_option maxHeartbeats 4000000 in
set_option maxRecDepth 100000 in
theorem c_X3_mostShaded (l : Launch) (D : va_G) (g : xG) (T : Nat × Nat × Nat) (h0 : Nat) (s0 : xS) (hσ : xRR s0) (p0 : IC s0) : Met l yX3_mostShaded (xws yX3_mostShaded cX3_mostShaded 3 (some .int)) { frames := 1, cells := 0, slots := 0, locals := 21 } (xP [.ref (h0 + 156)] D g T h0 s0) (xQi D g h0 (fun r τ => s0 = τ ∧ (-1 ≤ r ∧ r < 100))) 0 0 (xA h0) := by
  refine x_met hσ (by decide) (Nat.le_of_ble_eq_true rfl) ?_
  intro p e s m args below meth c hx hb hr hml hown hT hlk hnm hE hW ls hl
  have hl : lv_has ls 3 [(0, .ref (h0 + 156))] := hl
  obtain ⟨Q, eQ⟩ : ∃ Q, Q = MQ below (xQi D g h0 (fun r τ => s0 = τ ∧ (-1 ≤ r ∧ r < 100))) args s 0 0 (xA h0) := ⟨_, rfl⟩
  rw [← eQ]
  generalize hHe : ([] : List Loc) = locs at hW ⊢
  obtain ⟨H, eH⟩ : ∃ H, H = s.heap := ⟨_, rfl⟩
  rw [← eH] at hW ⊢
  have k1_1 : s0 1 1 = s0 1 1 := rfl
  refine x_iconst hx hb dX3_mostShaded_0 ?_
  refine lv_istore_n (lv' := [(1, .int (xJ (-1))), (0, .ref (h0 + 156))]) hx hb dX3_mostShaded_1 rfl hl (by decide) rfl (fun ls hl => ?_)
  refine x_iconst hx hb dX3_mostShaded_2 ?_
  refine lv_istore_n (lv' := [(2, .int (xJ 0)), (1, .int (xJ (-1))), (0, .ref (h0 + 156))]) hx hb dX3_mostShaded_3 rfl hl (by decide) rfl (fun ls hl => ?_)
  have L4 : ∀ (fu : Nat) (i1_4 : Int) (i2_4 : Int) (H : Heap) (locs : List Loc) (ls : Array Slot), (xR i1_4) → (xR i2_4) → (0 ≤ i2_4) → (i2_4 ≤ 100) → (-1 ≤ i1_4 ∧ i1_4 < 100) → (100 + 1 - i2_4).toNat < fu → xW D g h0 s H locs s0 → lv_has ls 3 [(0, .ref (h0 + 156)), (1, .int (xJ i1_4)), (2, .int (xJ i2_4))] → W p l e { frames := 1, cells := 0, slots := 0, locals := 21 } s m args below meth c H locs 0 0 Q (F0 m 4 ls []) := by
    intro fu
    induction fu with
    | zero => intro i1_4 i2_4 H locs ls ri1_4 ri2_4 v4_0 v4_1 v4_2 hm; exact absurd hm (Nat.not_lt_zero _)
    | succ fu ih4 =>
      intro i1_4 i2_4 H locs ls ri1_4 ri2_4 v4_0 v4_1 v4_2 hm hW hl
      refine x_iload_n hx hb hl 2 rfl dX3_mostShaded_4 rfl ?_
      refine x_bipush hx hb dX3_mostShaded_5 (by decide) ?_
      refine x_icmp_ge (tgt := 56) hx hb ri2_4 (by decide) dX3_mostShaded_7 (by decide) (fun c1 => ?_) (fun c1 => ?_)
      · skip
        refine x_iload_n hx hb hl 1 rfl dX3_mostShaded_56 rfl ?_
        rw [eQ]
        exact x_iret hx hb hr hlk hW ri1_4 ⟨rfl, by omega⟩ dX3_mostShaded_57
      refine x_aload_n hx hb hl 0 rfl dX3_mostShaded_10 rfl ?_
      refine x_get (j := 0) (v := .ref (h0 + 128)) hx hb hown hT hE hW cls_X3 (Or.inl (by decide)) (so_156 h0 g _) (by decide) rfl wq450 dX3_mostShaded_11 ?_
      refine x_getN (j := 0) (v := .ref (h0 + 3)) hx hb hown hT hE hW cls_X0 (Or.inl (by decide)) (so_128 h0 g _) (by decide) rfl wn353 dX3_mostShaded_14 ?_
      refine x_iload_n hx hb hl 2 rfl dX3_mostShaded_17 rfl ?_
      refine x_goi (x_runVN (As := [.int (xJ i2_4)]) hx hb hml hown hT hE hW hl.1 (Or.inl (by decide)) (so_3 h0 g _) rfl cf_X6_kindAt wq619 wq10 wn1054 (c_X6_kindAt l D g T h0 s0 hW.2.1 i2_4 ri2_4 p0) ⟨rfl, rfl, ⟨by decide, by decide⟩, ⟨by decide, by decide⟩⟩ rfl rfl (Nat.le_of_ble_eq_true rfl) dX3_mostShaded_18) hW (fun x2 s3 H locs rx2 hp4 hW => ?_)
      obtain ⟨es3, hp4⟩ := hp4
      subst es3
      have ghp4 := hp4
      refine x_iconst hx hb dX3_mostShaded_21 ?_
      refine x_icmp_ne (tgt := 28) hx hb rx2 (by decide) dX3_mostShaded_22 (by decide) (fun c5 => ?_) (fun c5 => ?_)
      · skip
        refine x_iload_n hx hb hl 1 rfl dX3_mostShaded_28 rfl ?_
        refine x_iconst hx hb dX3_mostShaded_29 ?_
        refine x_icmp_eq (tgt := 48) hx hb ri1_4 (by decide) dX3_mostShaded_30 (by decide) (fun c6 => ?_) (fun c6 => ?_)
        · skip
          refine x_iload_n hx hb hl 2 rfl dX3_mostShaded_48 rfl ?_
          refine lv_istore_n (lv' := [(1, .int (xJ i2_4)), (0, .ref (h0 + 156)), (2, .int (xJ i2_4))]) hx hb dX3_mostShaded_49 rfl hl (by decide) rfl (fun ls hl => ?_)
          refine x_iinc (lv' := [(2, .int (xJ (i2_4 + 1))), (1, .int (xJ i2_4)), (0, .ref (h0 + 156))]) hx hb hl 2 rfl dX3_mostShaded_50 (by decide) rfl (fun ls hl => ?_)
          refine lv_goto (tgt := 4) hx hb dX3_mostShaded_53 (by decide) ?_
          exact ih4 i2_4 (i2_4 + 1) H locs ls ri2_4 (by omega) (by omega) (by omega) (by omega) (by omega) hW (lv_sub hl [2, 1, 0] rfl)
        refine x_aload_n hx hb hl 0 rfl dX3_mostShaded_33 rfl ?_
        refine x_get (j := 7) (v := .ref (h0 + 226)) hx hb hown hT hE hW cls_X3 (Or.inl (by decide)) (so_156 h0 g _) (by decide) rfl wq459 dX3_mostShaded_34 ?_
        refine x_iload_n hx hb hl 2 rfl dX3_mostShaded_37 rfl ?_
        refine x_iald hx hb hE hW (Or.inl (by decide)) (sa_226 h0 g _) (by omega) (by decide) dX3_mostShaded_38 ?_
        refine x_rd hW (fun x7 ex7 rx7 => ?_)
        refine x_aload_n hx hb hl 0 rfl dX3_mostShaded_39 rfl ?_
        refine x_get (j := 7) (v := .ref (h0 + 226)) hx hb hown hT hE hW cls_X3 (Or.inl (by decide)) (so_156 h0 g _) (by decide) rfl wq459 dX3_mostShaded_40 ?_
        refine x_iload_n hx hb hl 1 rfl dX3_mostShaded_43 rfl ?_
        refine x_iald hx hb hE hW (Or.inl (by decide)) (sa_226 h0 g _) (by omega) (by decide) dX3_mostShaded_44 ?_
        refine x_rd hW (fun x8 ex8 rx8 => ?_)
        refine x_icmp_le (tgt := 50) hx hb rx7 rx8 dX3_mostShaded_45 (by decide) (fun c9 => ?_) (fun c9 => ?_)
        · skip
          refine x_iinc (lv' := [(2, .int (xJ (i2_4 + 1))), (0, .ref (h0 + 156)), (1, .int (xJ i1_4))]) hx hb hl 2 rfl dX3_mostShaded_50 (by decide) rfl (fun ls hl => ?_)
          refine lv_goto (tgt := 4) hx hb dX3_mostShaded_53 (by decide) ?_
          exact ih4 i1_4 (i2_4 + 1) H locs ls ri1_4 (by omega) (by omega) (by omega) (by omega) (by omega) hW (lv_sub hl [1, 2, 0] rfl)
        refine x_iload_n hx hb hl 2 rfl dX3_mostShaded_48 rfl ?_
        refine lv_istore_n (lv' := [(1, .int (xJ i2_4)), (0, .ref (h0 + 156)), (2, .int (xJ i2_4))]) hx hb dX3_mostShaded_49 rfl hl (by decide) rfl (fun ls hl => ?_)
        refine x_iinc (lv' := [(2, .int (xJ (i2_4 + 1))), (1, .int (xJ i2_4)), (0, .ref (h0 + 156))]) hx hb hl 2 rfl dX3_mostShaded_50 (by decide) rfl (fun ls hl => ?_)
        refine lv_goto (tgt := 4) hx hb dX3_mostShaded_53 (by decide) ?_
        exact ih4 i2_4 (i2_4 + 1) H locs ls ri2_4 (by omega) (by omega) (by omega) (by omega) (by omega) hW (lv_sub hl [2, 1, 0] rfl)
      refine lv_goto (tgt := 50) hx hb dX3_mostShaded_25 (by decide) ?_
      refine x_iinc (lv' := [(2, .int (xJ (i2_4 + 1))), (0, .ref (h0 + 156)), (1, .int (xJ i1_4))]) hx hb hl 2 rfl dX3_mostShaded_50 (by decide) rfl (fun ls hl => ?_)
      refine lv_goto (tgt := 4) hx hb dX3_mostShaded_53 (by decide) ?_
      exact ih4 i1_4 (i2_4 + 1) H locs ls ri1_4 (by omega) (by omega) (by omega) (by omega) (by omega) hW (lv_sub hl [1, 2, 0] rfl)
  exact L4 ((100 + 1 - 0 : Int).toNat + 1) (-1) 0 H locs ls (by decide) (by decide) (by omega) (by omega) (by omega) (Nat.lt_succ_self _) hW (lv_sub hl [2, 1, 0] rfl)
set_option maxHeartbeats 4000000 in
set_option maxRecDepth 100000 in
theorem c_X3_oneStepMore (l : Launch) (D : va_G) (g : xG) (T : Nat × Nat × Nat) (h0 : Nat) (s0 : xS) (hσ : xRR s0) (a : Int) (ra : xR a) (p0 : IC s0) : Met l yX3_oneStepMore (xws yX3_oneStepMore cX3_oneStepMore 5 (some .int)) { frames := 2, cells := 0, slots := 0, locals := 43 } (xP [.ref (h0 + 156), .int (xJ a)] D g T h0 s0) (xQi D g h0 (fun r τ => s0 = τ ∧ (True))) 0 0 (xA h0) := by
  refine x_met hσ (by decide) (Nat.le_of_ble_eq_true rfl) ?_
  intro p e s m args below meth c hx hb hr hml hown hT hlk hnm hE hW ls hl
  have hl : lv_has ls 5 [(0, .ref (h0 + 156)), (1, .int (xJ a))] := hl
  obtain ⟨Q, eQ⟩ : ∃ Q, Q = MQ below (xQi D g h0 (fun r τ => s0 = τ ∧ (True))) args s 0 0 (xA h0) := ⟨_, rfl⟩
  rw [← eQ]
  generalize hHe : ([] : List Loc) = locs at hW ⊢
  obtain ⟨H, eH⟩ : ∃ H, H = s.heap := ⟨_, rfl⟩
  rw [← eH] at hW ⊢
  have k1_1 : s0 1 1 = s0 1 1 := rfl
  refine lv_ldc (v := xJ 1000000) hx hb hown (hT _ wq991) dX3_oneStepMore_0 ?_
  refine lv_istore_n (lv' := [(2, .int (xJ 1000000)), (0, .ref (h0 + 156)), (1, .int (xJ a))]) hx hb dX3_oneStepMore_2 rfl hl (by decide) rfl (fun ls hl => ?_)
  refine x_aload_n hx hb hl 1 rfl dX3_oneStepMore_3 rfl ?_
  refine x_get (j := 0) (v := .ref (h0 + 128)) hx hb hown hT hE hW cls_X3 (Or.inl (by decide)) (so_156 h0 g _) (by decide) rfl wq450 dX3_oneStepMore_4 ?_
  refine x_getN (j := 0) (v := .ref (h0 + 3)) hx hb hown hT hE hW cls_X0 (Or.inl (by decide)) (so_128 h0 g _) (by decide) rfl wn353 dX3_oneStepMore_7 ?_
  refine x_iload_n hx hb hl 2 rfl dX3_oneStepMore_10 rfl ?_
  refine x_goi (x_runVN (As := [.int (xJ a)]) hx hb hml hown hT hE hW hl.1 (Or.inl (by decide)) (so_3 h0 g _) rfl cf_X6_isOpen wq615 wq9 wn1007 (c_X6_isOpen l D g T h0 s0 hW.2.1 a ra p0) ⟨rfl, rfl, ⟨by decide, by decide⟩, ⟨by decide, by decide⟩⟩ rfl rfl (Nat.le_of_ble_eq_true rfl) dX3_oneStepMore_11) hW (fun x1 s2 H locs rx1 hp3 hW => ?_)
  obtain ⟨es2, hp3⟩ := hp3
  subst es2
  have ghp3 := hp3
  refine x_if_ne (tgt := 19) hx hb rx1 dX3_oneStepMore_14 (by decide) (fun c4 => ?_) (fun c4 => ?_)
  · skip
    refine x_iconst hx hb dX3_oneStepMore_19 ?_
    refine lv_istore_n (lv' := [(3, .int (xJ 0)), (2, .int (xJ 1000000)), (0, .ref (h0 + 156)), (1, .int (xJ a))]) hx hb dX3_oneStepMore_20 rfl hl (by decide) rfl (fun ls hl => ?_)
    have L21 : ∀ (fu : Nat) (i2_21 : Int) (i3_21 : Int) (H : Heap) (locs : List Loc) (ls : Array Slot), (xR i2_21) → (xR i3_21) → (0 ≤ i3_21) → (8 - i3_21).toNat < fu → xW D g h0 s H locs s0 → lv_has ls 5 [(0, .ref (h0 + 156)), (1, .int (xJ a)), (2, .int (xJ i2_21)), (3, .int (xJ i3_21))] → W p l e { frames := 2, cells := 0, slots := 0, locals := 43 } s m args below meth c H locs 0 0 Q (F0 m 21 ls []) := by
      intro fu
      induction fu with
      | zero => intro i2_21 i3_21 H locs ls ri2_21 ri3_21 v21_0 hm; exact absurd hm (Nat.not_lt_zero _)
      | succ fu ih21 =>
        intro i2_21 i3_21 H locs ls ri2_21 ri3_21 v21_0 hm hW hl
        refine x_iload_n hx hb hl 3 rfl dX3_oneStepMore_21 rfl ?_
        refine x_bipush hx hb dX3_oneStepMore_22 (by decide) ?_
        refine x_icmp_ge (tgt := 62) hx hb ri3_21 (by decide) dX3_oneStepMore_24 (by decide) (fun c5 => ?_) (fun c5 => ?_)
        · skip
          refine x_iload_n hx hb hl 2 rfl dX3_oneStepMore_62 rfl ?_
          rw [eQ]
          exact x_iret hx hb hr hlk hW ri2_21 ⟨rfl, trivial⟩ dX3_oneStepMore_63
        refine x_iload_n hx hb hl 1 rfl dX3_oneStepMore_27 rfl ?_
        refine x_iload_n hx hb hl 3 rfl dX3_oneStepMore_28 rfl ?_
        refine x_goi (x_runSN (As := [.int (xJ a), .int (xJ i3_21)]) hx hb hml hown hT hE hW hl.1 cf_X6_beside wq784 wn1008 (c_X6_beside l D g T h0 s0 hW.2.1 a ra i3_21 ri3_21) ⟨rfl, rfl, ⟨by decide, by decide⟩, ⟨by decide, by decide⟩⟩ rfl rfl (Nat.le_of_ble_eq_true rfl) dX3_oneStepMore_29) hW (fun x6 s7 H locs rx6 hp8 hW => ?_)
        obtain ⟨es7, hp8⟩ := hp8
        subst es7
        have ghp8 := hp8
        refine lv_istore (lv' := [(4, .int (xJ x6)), (0, .ref (h0 + 156)), (1, .int (xJ a)), (2, .int (xJ i2_21)), (3, .int (xJ i3_21))]) hx hb dX3_oneStepMore_32 hl (by decide) rfl (fun ls hl => ?_)
        refine x_iload hx hb hl 0 rfl dX3_oneStepMore_34 ?_
        refine x_goi (x_runSN (As := [.int (xJ x6)]) hx hb hml hown hT hE hW hl.1 cf_X6_isSpot wq831 wn990 (c_X6_isSpot l D g T h0 s0 hW.2.1 x6 rx6) ⟨rfl, rfl, ⟨by decide, by decide⟩, ⟨by decide, by decide⟩⟩ rfl rfl (Nat.le_of_ble_eq_true rfl) dX3_oneStepMore_36) hW (fun x9 s10 H locs rx9 hp11 hW => ?_)
        obtain ⟨es10, hp11⟩ := hp11
        subst es10
        have ghp11 := hp11
        refine x_if_eq (tgt := 56) hx hb rx9 dX3_oneStepMore_39 (by decide) (fun c12 => ?_) (fun c12 => ?_)
        · skip
          refine x_iinc (lv' := [(3, .int (xJ (i3_21 + 2))), (4, .int (xJ x6)), (0, .ref (h0 + 156)), (1, .int (xJ a)), (2, .int (xJ i2_21))]) hx hb hl 4 rfl dX3_oneStepMore_56 (by decide) rfl (fun ls hl => ?_)
          refine lv_goto (tgt := 21) hx hb dX3_oneStepMore_59 (by decide) ?_
          exact ih21 i2_21 (i3_21 + 2) H locs ls ri2_21 (by omega) (by omega) (by omega) hW (lv_sub hl [2, 3, 4, 0] rfl)
        refine x_iload_n hx hb hl 3 rfl dX3_oneStepMore_42 rfl ?_
        refine x_aload_n hx hb hl 1 rfl dX3_oneStepMore_43 rfl ?_
        refine x_get (j := 9) (v := .ref (h0 + 259)) hx hb hown hT hE hW cls_X3 (Or.inl (by decide)) (so_156 h0 g _) (by decide) rfl wq462 dX3_oneStepMore_44 ?_
        refine x_iload hx hb hl 0 rfl dX3_oneStepMore_47 ?_
        refine x_iald hx hb hE hW (Or.inl (by decide)) (sa_259 h0 g _) (by omega) (by decide) dX3_oneStepMore_49 ?_
        refine x_rd hW (fun x13 ex13 rx13 => ?_)
        refine x_iconst hx hb dX3_oneStepMore_50 ?_
        refine x_iadd hx hb dX3_oneStepMore_51 ?_
        refine x_any (fun x14 rx14 => ?_)
        refine x_mmin hx hb hml hl.1 hown hT wq997 wq569 wq180 wq570 ⟨by decide, Nat.le_of_ble_eq_true rfl, by decide, by decide⟩ ri2_21 rx14 dX3_oneStepMore_52 ?_
        refine x_nm (fun x15 ex15 => ?_)
        have fx15 : (x15 = i2_21 ∧ i2_21 ≤ x14) ∨ (x15 = x14 ∧ x14 ≤ i2_21) := by rw [ex15]; split <;> omega
        refine lv_istore_n (lv' := [(2, .int (xJ x15)), (4, .int (xJ x6)), (0, .ref (h0 + 156)), (1, .int (xJ a)), (3, .int (xJ i3_21))]) hx hb dX3_oneStepMore_55 rfl hl (by decide) rfl (fun ls hl => ?_)
        refine x_iinc (lv' := [(3, .int (xJ (i3_21 + 2))), (2, .int (xJ x15)), (4, .int (xJ x6)), (0, .ref (h0 + 156)), (1, .int (xJ a))]) hx hb hl 4 rfl dX3_oneStepMore_56 (by decide) rfl (fun ls hl => ?_)
        refine lv_goto (tgt := 21) hx hb dX3_oneStepMore_59 (by decide) ?_
        exact ih21 x15 (i3_21 + 2) H locs ls (by omega) (by omega) (by omega) (by omega) hW (lv_sub hl [3, 4, 1, 0] rfl)
    exact L21 ((8 - 0 : Int).toNat + 1) 1000000 0 H locs ls (by decide) (by decide) (by omega) (Nat.lt_succ_self _) hW (lv_sub hl [2, 3, 1, 0] rfl)
  refine x_iload_n hx hb hl 0 rfl dX3_oneStepMore_17 rfl ?_
  rw [eQ]
  exact x_iret hx hb hr hlk hW (by decide) ⟨rfl, trivial⟩ dX3_oneStepMore_18
set_option maxHeartbeats 4000000 in
set_option maxRecDepth 100000 in
theorem c_X3_spreadSteps (l : Launch) (D : va_G) (g : xG) (T : Nat × Nat × Nat) (h0 : Nat) (s0 : xS) (hσ : xRR s0) (ka : Nat) (hka : ka < 310) (hns : nsC ka) (hca : ∀ σ : xS, xcel h0 g σ ka = .inl (g.1, 100, .inl (fun j => xJ (σ ka j)))) (p0 : IC s0) : Met l yX3_spreadSteps (xws yX3_spreadSteps cX3_spreadSteps 4 none) { frames := 3, cells := 0, slots := 0, locals := 67 } (xP [.ref (h0 + 156), .ref (h0 + ka)] D g T h0 s0) (xQv D g h0 (fun τ => xFr (fun k => k = 259 ∨ k = 260) s0 τ ∧ (((IC τ) ∧ True) ∧ (True)))) 0 0 (xA h0) := by
  refine x_met hσ (by decide) (Nat.le_of_ble_eq_true rfl) ?_
  intro p e s m args below meth c hx hb hr hml hown hT hlk hnm hE hW ls hl
  have hl : lv_has ls 4 [(0, .ref (h0 + 156)), (1, .ref (h0 + ka))] := hl
  obtain ⟨Q, eQ⟩ : ∃ Q, Q = MQ below (xQv D g h0 (fun τ => xFr (fun k => k = 259 ∨ k = 260) s0 τ ∧ (((IC τ) ∧ True) ∧ (True)))) args s 0 0 (xA h0) := ⟨_, rfl⟩
  rw [← eQ]
  generalize hHe : ([] : List Loc) = locs at hW ⊢
  obtain ⟨H, eH⟩ : ∃ H, H = s.heap := ⟨_, rfl⟩
  rw [← eH] at hW ⊢
  have hF : xFr (fun k => k = 259 ∨ k = 260) s0 s0 := xFr.rf
  have k1_1 : s0 1 1 = s0 1 1 := rfl
  refine x_aload_n hx hb hl 1 rfl dX3_spreadSteps_0 rfl ?_
  refine x_iconst hx hb dX3_spreadSteps_1 ?_
  refine x_aload_n hx hb hl 0 rfl dX3_spreadSteps_2 rfl ?_
  refine x_get (j := 9) (v := .ref (h0 + 259)) hx hb hown hT hE hW cls_X3 (Or.inl (by decide)) (so_156 h0 g _) (by decide) rfl wq462 dX3_spreadSteps_3 ?_
  refine x_iconst hx hb dX3_spreadSteps_6 ?_
  refine x_bipush hx hb dX3_spreadSteps_7 (by decide) ?_
  refine x_copyi (ns := 100) (nd := 100) hx hb hml hl.1 hown hT hE hW wq1002 wq604 wq603 wq181 (Or.inl hka) (hca _) (by decide) (fun σ => sa_259 h0 g σ) (by omega) ⟨by decide, Nat.le_of_ble_eq_true rfl⟩ dX3_spreadSteps_9 (fun H locs s1 es1 hW => ?_)
  have q2 : IC s1 := IC_f (fun k hk => by rw [es1]; exact xC_k _ _ _ (fun q => hk (q ▸ (by decide)))) p0
  have q3 : s1 1 1 = s0 1 1 := (show s1 1 1 = s0 1 1 from by rw [es1, xC_k _ _ _ (by omega)]).trans k1_1
  have hF4 := hF.cpy es1 (by omega)
  refine x_iconst hx hb dX3_spreadSteps_12 ?_
  refine lv_istore_n (lv' := [(2, .int (xJ 0)), (0, .ref (h0 + 156)), (1, .ref (h0 + ka))]) hx hb dX3_spreadSteps_13 rfl hl (by decide) rfl (fun ls hl => ?_)
  have L14 : ∀ (fu : Nat) (i2_14 : Int) (s_14 : xS) (H : Heap) (locs : List Loc) (ls : Array Slot), (xR i2_14) → (xFr (fun k => k = 259 ∨ k = 260) s0 s_14) → (IC s_14) → (s_14 1 1 = s0 1 1) → (0 ≤ i2_14) → (i2_14 ≤ 3) → (3 + 1 - i2_14).toNat < fu → xW D g h0 s H locs s_14 → lv_has ls 4 [(0, .ref (h0 + 156)), (2, .int (xJ i2_14))] → W p l e { frames := 3, cells := 0, slots := 0, locals := 67 } s m args below meth c H locs 0 0 Q (F0 m 14 ls []) := by
    intro fu
    induction fu with
    | zero => intro i2_14 s_14 H locs ls ri2_14 hF_14 q14_0 q14_1 v14_0 v14_1 hm; exact absurd hm (Nat.not_lt_zero _)
    | succ fu ih14 =>
      intro i2_14 s_14 H locs ls ri2_14 hF_14 q14_0 q14_1 v14_0 v14_1 hm hW hl
      refine x_iload_n hx hb hl 1 rfl dX3_spreadSteps_14 rfl ?_
      refine x_iconst hx hb dX3_spreadSteps_15 ?_
      refine x_icmp_ge (tgt := 74) hx hb ri2_14 (by decide) dX3_spreadSteps_16 (by decide) (fun c5 => ?_) (fun c5 => ?_)
      · skip
        rw [eQ]
        exact x_vret hx hb hr hlk hW ⟨hF_14, ⟨q14_0, trivial⟩, trivial⟩ dX3_spreadSteps_74
      refine x_iconst hx hb dX3_spreadSteps_19 ?_
      refine lv_istore_n (lv' := [(3, .int (xJ 0)), (0, .ref (h0 + 156)), (2, .int (xJ i2_14))]) hx hb dX3_spreadSteps_20 rfl hl (by decide) rfl (fun ls hl => ?_)
      have L21 : ∀ (fu : Nat) (i3_21 : Int) (s_21 : xS) (H : Heap) (locs : List Loc) (ls : Array Slot), (xR i3_21) → (xFr (fun k => k = 259 ∨ k = 260) s0 s_21) → (IC s_21) → (s_21 1 1 = s0 1 1) → (0 ≤ i3_21) → (i3_21 ≤ 100) → (100 + 1 - i3_21).toNat < fu → xW D g h0 s H locs s_21 → lv_has ls 4 [(0, .ref (h0 + 156)), (2, .int (xJ i2_14)), (3, .int (xJ i3_21))] → W p l e { frames := 3, cells := 0, slots := 0, locals := 67 } s m args below meth c H locs 0 0 Q (F0 m 21 ls []) := by
        intro fu
        induction fu with
        | zero => intro i3_21 s_21 H locs ls ri3_21 hF_21 q21_0 q21_1 v21_0 v21_1 hm; exact absurd hm (Nat.not_lt_zero _)
        | succ fu ih21 =>
          intro i3_21 s_21 H locs ls ri3_21 hF_21 q21_0 q21_1 v21_0 v21_1 hm hW hl
          refine x_iload_n hx hb hl 2 rfl dX3_spreadSteps_21 rfl ?_
          refine x_bipush hx hb dX3_spreadSteps_22 (by decide) ?_
          refine x_icmp_ge (tgt := 53) hx hb ri3_21 (by decide) dX3_spreadSteps_24 (by decide) (fun c6 => ?_) (fun c6 => ?_)
          · skip
            refine x_aload_n hx hb hl 0 rfl dX3_spreadSteps_53 rfl ?_
            refine x_get (j := 10) (v := .ref (h0 + 260)) hx hb hown hT hE hW cls_X3 (Or.inl (by decide)) (so_156 h0 g _) (by decide) rfl wq463 dX3_spreadSteps_54 ?_
            refine x_iconst hx hb dX3_spreadSteps_57 ?_
            refine x_aload_n hx hb hl 0 rfl dX3_spreadSteps_58 rfl ?_
            refine x_get (j := 9) (v := .ref (h0 + 259)) hx hb hown hT hE hW cls_X3 (Or.inl (by decide)) (so_156 h0 g _) (by decide) rfl wq462 dX3_spreadSteps_59 ?_
            refine x_iconst hx hb dX3_spreadSteps_62 ?_
            refine x_bipush hx hb dX3_spreadSteps_63 (by decide) ?_
            refine x_copyi (ns := 100) (nd := 100) hx hb hml hl.1 hown hT hE hW wq1002 wq604 wq603 wq181 (Or.inl (by decide)) (sa_260 h0 g _) (by decide) (fun σ => sa_259 h0 g σ) (by omega) ⟨by decide, Nat.le_of_ble_eq_true rfl⟩ dX3_spreadSteps_65 (fun H locs s7 es7 hW => ?_)
            have q8 : IC s7 := IC_f (fun k hk => by rw [es7]; exact xC_k _ _ _ (fun q => hk (q ▸ (by decide)))) q21_0
            have q9 : s7 1 1 = s0 1 1 := (show s7 1 1 = s_21 1 1 from by rw [es7, xC_k _ _ _ (by omega)]).trans q21_1
            have hF10 := hF_21.cpy es7 (by omega)
            refine x_iinc (lv' := [(2, .int (xJ (i2_14 + 1))), (0, .ref (h0 + 156)), (3, .int (xJ i3_21))]) hx hb hl 1 rfl dX3_spreadSteps_68 (by decide) rfl (fun ls hl => ?_)
            refine lv_goto (tgt := 14) hx hb dX3_spreadSteps_71 (by decide) ?_
            exact ih14 (i2_14 + 1) s7 H locs ls (by omega) hF10 q8 q9 (by omega) (by omega) (by omega) hW (lv_sub hl [1, 0] rfl)
          refine x_aload_n hx hb hl 0 rfl dX3_spreadSteps_27 rfl ?_
          refine x_get (j := 10) (v := .ref (h0 + 260)) hx hb hown hT hE hW cls_X3 (Or.inl (by decide)) (so_156 h0 g _) (by decide) rfl wq463 dX3_spreadSteps_28 ?_
          refine x_iload_n hx hb hl 2 rfl dX3_spreadSteps_31 rfl ?_
          refine x_aload_n hx hb hl 0 rfl dX3_spreadSteps_32 rfl ?_
          refine x_get (j := 9) (v := .ref (h0 + 259)) hx hb hown hT hE hW cls_X3 (Or.inl (by decide)) (so_156 h0 g _) (by decide) rfl wq462 dX3_spreadSteps_33 ?_
          refine x_iload_n hx hb hl 2 rfl dX3_spreadSteps_36 rfl ?_
          refine x_iald hx hb hE hW (Or.inl (by decide)) (sa_259 h0 g _) (by omega) (by decide) dX3_spreadSteps_37 ?_
          refine x_rd hW (fun x11 ex11 rx11 => ?_)
          refine x_aload_n hx hb hl 0 rfl dX3_spreadSteps_38 rfl ?_
          refine x_iload_n hx hb hl 2 rfl dX3_spreadSteps_39 rfl ?_
          refine x_goi (x_runV (As := [.int (xJ i3_21)]) hx hb hml hown hT hE hW hl.1 (Or.inl (by decide)) (so_156 h0 g _) rfl cf_X3_oneStepMore wq1005 wq78 wq1003 (c_X3_oneStepMore l D g T h0 s_21 hW.2.1 i3_21 ri3_21 q21_0) ⟨rfl, rfl, ⟨by decide, by decide⟩, ⟨by decide, by decide⟩⟩ rfl rfl (Nat.le_of_ble_eq_true rfl) dX3_spreadSteps_40) hW (fun x12 s13 H locs rx12 hp14 hW => ?_)
          obtain ⟨es13, hp14⟩ := hp14
          subst es13
          have ghp14 := hp14
          refine x_mmin hx hb hml hl.1 hown hT wq997 wq569 wq180 wq570 ⟨by decide, Nat.le_of_ble_eq_true rfl, by decide, by decide⟩ rx11 rx12 dX3_spreadSteps_43 ?_
          refine x_nm (fun x15 ex15 => ?_)
          have fx15 : (x15 = x11 ∧ x11 ≤ x12) ∨ (x15 = x12 ∧ x12 ≤ x11) := by rw [ex15]; split <;> omega
          refine x_iast hx hb hE hW (by decide) (fun σ => sa_260 h0 g σ) (by omega) (by decide) (by omega) dX3_spreadSteps_46 (fun H locs s16 es16 hW => ?_)
          have q17 : IC s16 := by rw [es16]; exact IC_o (by decide) q21_0
          have q18 : s16 1 1 = s0 1 1 := (show s16 1 1 = s_21 1 1 from by rw [es16, xU_k _ _ _ (by omega)]).trans q21_1
          have hF19 := hF_21.put es16 (by omega)
          refine x_iinc (lv' := [(3, .int (xJ (i3_21 + 1))), (0, .ref (h0 + 156)), (2, .int (xJ i2_14))]) hx hb hl 2 rfl dX3_spreadSteps_47 (by decide) rfl (fun ls hl => ?_)
          refine lv_goto (tgt := 21) hx hb dX3_spreadSteps_50 (by decide) ?_
          exact ih21 (i3_21 + 1) s16 H locs ls (by omega) hF19 q17 q18 (by omega) (by omega) (by omega) hW (lv_sub hl [1, 2, 0] rfl)
      exact L21 ((100 + 1 - 0 : Int).toNat + 1) 0 s_14 H locs ls (by decide) hF_14 q14_0 q14_1 (by omega) (by omega) (Nat.lt_succ_self _) hW (lv_sub hl [1, 2, 0] rfl)
  exact L14 ((3 + 1 - 0 : Int).toNat + 1) 0 s1 H locs ls (by decide) hF4 q2 q3 (by omega) (by omega) (Nat.lt_succ_self _) hW (lv_sub hl [1, 0] rfl)
set_option maxHeartbeats 4000000 in
set_option maxRecDepth 100000 in
theorem c_X3_settle (l : Launch) (D : va_G) (g : xG) (T : Nat × Nat × Nat) (h0 : Nat) (s0 : xS) (hσ : xRR s0) (a : Int) (ra : xR a) (b : Int) (rb : xR b) (p0 : IC s0) : Met l yX3_settle (xws yX3_settle cX3_settle 5 none) { frames := 2, cells := 0, slots := 0, locals := 41 } (xP [.ref (h0 + 156), .int (xJ a), .int (xJ b)] D g T h0 s0) (xQv D g h0 (fun τ => xFr (fun k => (228 ≤ k ∧ k < 259)) s0 τ ∧ (((IC τ) ∧ True) ∧ (True)))) 0 0 (xA h0) := by
  refine x_met hσ (by decide) (Nat.le_of_ble_eq_true rfl) ?_
  intro p e s m args below meth c hx hb hr hml hown hT hlk hnm hE hW ls hl
  have hl : lv_has ls 5 [(0, .ref (h0 + 156)), (1, .int (xJ a)), (2, .int (xJ b))] := hl
  obtain ⟨Q, eQ⟩ : ∃ Q, Q = MQ below (xQv D g h0 (fun τ => xFr (fun k => (228 ≤ k ∧ k < 259)) s0 τ ∧ (((IC τ) ∧ True) ∧ (True)))) args s 0 0 (xA h0) := ⟨_, rfl⟩
  rw [← eQ]
  generalize hHe : ([] : List Loc) = locs at hW ⊢
  obtain ⟨H, eH⟩ : ∃ H, H = s.heap := ⟨_, rfl⟩
  rw [← eH] at hW ⊢
  have hF : xFr (fun k => (228 ≤ k ∧ k < 259)) s0 s0 := xFr.rf
  have k1_1 : s0 1 1 = s0 1 1 := rfl
  refine x_iload_n hx hb hl 1 rfl dX3_settle_0 rfl ?_
  refine x_if_lt (tgt := 15) hx hb ra dX3_settle_1 (by decide) (fun c1 => ?_) (fun c1 => ?_)
  · skip
    rw [eQ]
    exact x_vret hx hb hr hlk hW ⟨hF, ⟨p0, trivial⟩, trivial⟩ dX3_settle_15
  refine x_iload_n hx hb hl 1 rfl dX3_settle_4 rfl ?_
  refine x_iload_n hx hb hl 2 rfl dX3_settle_5 rfl ?_
  refine x_icmp_gt (tgt := 15) hx hb ra rb dX3_settle_6 (by decide) (fun c2 => ?_) (fun c2 => ?_)
  · skip
    rw [eQ]
    exact x_vret hx hb hr hlk hW ⟨hF, ⟨p0, trivial⟩, trivial⟩ dX3_settle_15
  refine x_iload_n hx hb hl 2 rfl dX3_settle_9 rfl ?_
  refine x_bipush hx hb dX3_settle_10 (by decide) ?_
  refine x_icmp_le (tgt := 16) hx hb rb (by decide) dX3_settle_12 (by decide) (fun c3 => ?_) (fun c3 => ?_)
  · skip
    refine x_iconst hx hb dX3_settle_16 ?_
    refine lv_istore_n (lv' := [(3, .int (xJ 0)), (0, .ref (h0 + 156)), (1, .int (xJ a)), (2, .int (xJ b))]) hx hb dX3_settle_17 rfl hl (by decide) rfl (fun ls hl => ?_)
    have L18 : ∀ (fu : Nat) (i3_18 : Int) (s_18 : xS) (H : Heap) (locs : List Loc) (ls : Array Slot), (xR i3_18) → (xFr (fun k => (228 ≤ k ∧ k < 259)) s0 s_18) → (IC s_18) → (s_18 1 1 = s0 1 1) → (0 ≤ i3_18) → (i3_18 ≤ 100) → (100 + 1 - i3_18).toNat < fu → xW D g h0 s H locs s_18 → lv_has ls 5 [(0, .ref (h0 + 156)), (1, .int (xJ a)), (2, .int (xJ b)), (3, .int (xJ i3_18))] → W p l e { frames := 2, cells := 0, slots := 0, locals := 41 } s m args below meth c H locs 0 0 Q (F0 m 18 ls []) := by
      intro fu
      induction fu with
      | zero => intro i3_18 s_18 H locs ls ri3_18 hF_18 q18_0 q18_1 v18_0 v18_1 hm; exact absurd hm (Nat.not_lt_zero _)
      | succ fu ih18 =>
        intro i3_18 s_18 H locs ls ri3_18 hF_18 q18_0 q18_1 v18_0 v18_1 hm hW hl
        refine x_iload_n hx hb hl 3 rfl dX3_settle_18 rfl ?_
        refine x_bipush hx hb dX3_settle_19 (by decide) ?_
        refine x_icmp_ge (tgt := 117) hx hb ri3_18 (by decide) dX3_settle_21 (by decide) (fun c4 => ?_) (fun c4 => ?_)
        · skip
          rw [eQ]
          exact x_vret hx hb hr hlk hW ⟨hF_18, ⟨q18_0, trivial⟩, trivial⟩ dX3_settle_117
        refine x_iload_n hx hb hl 1 rfl dX3_settle_24 rfl ?_
        refine x_iload_n hx hb hl 2 rfl dX3_settle_25 rfl ?_
        have J48 : ∀ (t0_48 : Int) (H : Heap) (locs : List Loc) (ls : Array Slot), (xR t0_48) → (t0_48 = 0 ∨ a < b) → xW D g h0 s H locs s_18 → lv_has ls 5 [(0, .ref (h0 + 156)), (1, .int (xJ a)), (2, .int (xJ b)), (3, .int (xJ i3_18))] → W p l e { frames := 2, cells := 0, slots := 0, locals := 41 } s m args below meth c H locs 0 0 Q (F0 m 48 ls [.int (xJ t0_48)]) := by
          intro t0_48 H locs ls rt0_48 v48_0 hW hl
          refine lv_istore (lv' := [(4, .int (xJ t0_48)), (0, .ref (h0 + 156)), (1, .int (xJ a)), (2, .int (xJ b)), (3, .int (xJ i3_18))]) hx hb dX3_settle_48 hl (by decide) rfl (fun ls hl => ?_)
          refine x_iload hx hb hl 0 rfl dX3_settle_50 ?_
          refine x_if_eq (tgt := 97) hx hb rt0_48 dX3_settle_52 (by decide) (fun c5 => ?_) (fun c5 => ?_)
          · skip
            refine x_aload_n hx hb hl 1 rfl dX3_settle_97 rfl ?_
            refine x_get (j := 8) (v := .ref (h0 + 227)) hx hb hown hT hE hW cls_X3 (Or.inl (by decide)) (so_156 h0 g _) (by decide) rfl wq461 dX3_settle_98 ?_
            refine x_iload_n hx hb hl 2 rfl dX3_settle_101 rfl ?_
            refine x_aaldR (t0 := 3) (n := 31) (r := 228 + (a).toNat) hx hb hE hW (by decide) rfl rfl (sg_227 h0 g _) (by omega) (by decide) rfl dX3_settle_102 ?_
            refine x_iload_n hx hb hl 4 rfl dX3_settle_103 rfl ?_
            refine x_aload_n hx hb hl 1 rfl dX3_settle_104 rfl ?_
            refine x_get (j := 9) (v := .ref (h0 + 259)) hx hb hown hT hE hW cls_X3 (Or.inl (by decide)) (so_156 h0 g _) (by decide) rfl wq462 dX3_settle_105 ?_
            refine x_iload_n hx hb hl 4 rfl dX3_settle_108 rfl ?_
            refine x_iald hx hb hE hW (Or.inl (by decide)) (sa_259 h0 g _) (by omega) (by decide) dX3_settle_109 ?_
            refine x_rd hW (fun x6 ex6 rx6 => ?_)
            refine x_iast hx hb hE hW (by omega) (fun σ => sa_least0 h0 g (by omega) σ) (by omega) (by decide) rx6 dX3_settle_110 (fun H locs s7 es7 hW => ?_)
            have q8 : IC s7 := by rw [es7]; exact IC_o (by unfold nsC; omega) q18_0
            have q9 : s7 1 1 = s0 1 1 := (show s7 1 1 = s_18 1 1 from by rw [es7, xU_k _ _ _ (by omega)]).trans q18_1
            have hF10 := hF_18.put es7 (by omega)
            refine x_iinc (lv' := [(3, .int (xJ (i3_18 + 1))), (4, .int (xJ t0_48)), (0, .ref (h0 + 156)), (1, .int (xJ a)), (2, .int (xJ b))]) hx hb hl 4 rfl dX3_settle_111 (by decide) rfl (fun ls hl => ?_)
            refine lv_goto (tgt := 18) hx hb dX3_settle_114 (by decide) ?_
            exact ih18 (i3_18 + 1) s7 H locs ls (by omega) hF10 q8 q9 (by omega) (by omega) (by omega) hW (lv_sub hl [2, 3, 4, 0] rfl)
          refine x_aload_n hx hb hl 1 rfl dX3_settle_55 rfl ?_
          refine x_get (j := 8) (v := .ref (h0 + 227)) hx hb hown hT hE hW cls_X3 (Or.inl (by decide)) (so_156 h0 g _) (by decide) rfl wq461 dX3_settle_56 ?_
          refine x_iload_n hx hb hl 2 rfl dX3_settle_59 rfl ?_
          refine x_iconst hx hb dX3_settle_60 ?_
          refine x_iadd hx hb dX3_settle_61 ?_
          refine x_aaldR (t0 := 3) (n := 31) (r := 228 + ((a + 1)).toNat) hx hb hE hW (by decide) rfl rfl (sg_227 h0 g _) (by omega) (by decide) rfl dX3_settle_62 ?_
          refine x_iload_n hx hb hl 4 rfl dX3_settle_63 rfl ?_
          refine x_aload_n hx hb hl 1 rfl dX3_settle_64 rfl ?_
          refine x_get (j := 8) (v := .ref (h0 + 227)) hx hb hown hT hE hW cls_X3 (Or.inl (by decide)) (so_156 h0 g _) (by decide) rfl wq461 dX3_settle_65 ?_
          refine x_iload_n hx hb hl 2 rfl dX3_settle_68 rfl ?_
          refine x_iconst hx hb dX3_settle_69 ?_
          refine x_iadd hx hb dX3_settle_70 ?_
          refine x_aaldR (t0 := 3) (n := 31) (r := 228 + ((a + 1)).toNat) hx hb hE hW (by decide) rfl rfl (sg_227 h0 g _) (by omega) (by decide) rfl dX3_settle_71 ?_
          refine x_iload_n hx hb hl 4 rfl dX3_settle_72 rfl ?_
          refine x_iald hx hb hE hW (Or.inl (by omega)) (sa_least0 h0 g (by omega) _) (by omega) (by decide) dX3_settle_73 ?_
          refine x_rd hW (fun x11 ex11 rx11 => ?_)
          refine x_aload_n hx hb hl 1 rfl dX3_settle_74 rfl ?_
          refine x_get (j := 9) (v := .ref (h0 + 259)) hx hb hown hT hE hW cls_X3 (Or.inl (by decide)) (so_156 h0 g _) (by decide) rfl wq462 dX3_settle_75 ?_
          refine x_iload_n hx hb hl 4 rfl dX3_settle_78 rfl ?_
          refine x_iald hx hb hE hW (Or.inl (by decide)) (sa_259 h0 g _) (by omega) (by decide) dX3_settle_79 ?_
          refine x_rd hW (fun x12 ex12 rx12 => ?_)
          refine x_mmin hx hb hml hl.1 hown hT wq997 wq569 wq180 wq570 ⟨by decide, Nat.le_of_ble_eq_true rfl, by decide, by decide⟩ rx11 rx12 dX3_settle_80 ?_
          refine x_nm (fun x13 ex13 => ?_)
          have fx13 : (x13 = x11 ∧ x11 ≤ x12) ∨ (x13 = x12 ∧ x12 ≤ x11) := by rw [ex13]; split <;> omega
          refine x_iast hx hb hE hW (by omega) (fun σ => sa_least0 h0 g (by omega) σ) (by omega) (by decide) (by omega) dX3_settle_83 (fun H locs s14 es14 hW => ?_)
          have q15 : IC s14 := by rw [es14]; exact IC_o (by unfold nsC; omega) q18_0
          have q16 : s14 1 1 = s0 1 1 := (show s14 1 1 = s_18 1 1 from by rw [es14, xU_k _ _ _ (by omega)]).trans q18_1
          have hF17 := hF_18.put es14 (by omega)
          refine x_aload_n hx hb hl 1 rfl dX3_settle_84 rfl ?_
          refine x_get (j := 8) (v := .ref (h0 + 227)) hx hb hown hT hE hW cls_X3 (Or.inl (by decide)) (so_156 h0 g _) (by decide) rfl wq461 dX3_settle_85 ?_
          refine x_iload_n hx hb hl 2 rfl dX3_settle_88 rfl ?_
          refine x_aaldR (t0 := 3) (n := 31) (r := 228 + (a).toNat) hx hb hE hW (by decide) rfl rfl (sg_227 h0 g _) (by omega) (by decide) rfl dX3_settle_89 ?_
          refine x_iload_n hx hb hl 4 rfl dX3_settle_90 rfl ?_
          refine lv_ldc (v := xJ 1000000) hx hb hown (hT _ wq991) dX3_settle_91 ?_
          refine x_iast hx hb hE hW (by omega) (fun σ => sa_least0 h0 g (by omega) σ) (by omega) (by decide) (by decide) dX3_settle_93 (fun H locs s18 es18 hW => ?_)
          have q19 : IC s18 := by rw [es18]; exact IC_o (by unfold nsC; omega) q15
          have q20 : s18 1 1 = s0 1 1 := (show s18 1 1 = s14 1 1 from by rw [es18, xU_k _ _ _ (by omega)]).trans q16
          have hF21 := hF17.put es18 (by omega)
          refine lv_goto (tgt := 111) hx hb dX3_settle_94 (by decide) ?_
          refine x_iinc (lv' := [(3, .int (xJ (i3_18 + 1))), (4, .int (xJ t0_48)), (0, .ref (h0 + 156)), (1, .int (xJ a)), (2, .int (xJ b))]) hx hb hl 4 rfl dX3_settle_111 (by decide) rfl (fun ls hl => ?_)
          refine lv_goto (tgt := 18) hx hb dX3_settle_114 (by decide) ?_
          exact ih18 (i3_18 + 1) s18 H locs ls (by omega) hF21 q19 q20 (by omega) (by omega) (by omega) hW (lv_sub hl [2, 3, 4, 0] rfl)
        have J47 : ∀ (H : Heap) (locs : List Loc) (ls : Array Slot), xW D g h0 s H locs s_18 → lv_has ls 5 [(0, .ref (h0 + 156)), (1, .int (xJ a)), (2, .int (xJ b)), (3, .int (xJ i3_18))] → W p l e { frames := 2, cells := 0, slots := 0, locals := 41 } s m args below meth c H locs 0 0 Q (F0 m 47 ls []) := by
          intro H locs ls  hW hl
          refine x_iconst hx hb dX3_settle_47 ?_
          exact J48 0 H locs ls (by decide) (by omega) hW (lv_sub hl [0, 1, 2, 3] rfl)
        refine x_icmp_ge (tgt := 47) hx hb ra rb dX3_settle_26 (by decide) (fun c22 => ?_) (fun c22 => ?_)
        · skip
          exact J47 H locs ls  hW (lv_sub hl [0, 1, 2, 3] rfl)
        refine x_aload_n hx hb hl 0 rfl dX3_settle_29 rfl ?_
        refine x_get (j := 0) (v := .ref (h0 + 128)) hx hb hown hT hE hW cls_X3 (Or.inl (by decide)) (so_156 h0 g _) (by decide) rfl wq450 dX3_settle_30 ?_
        refine x_getN (j := 3) (v := .ref (h0 + 130)) hx hb hown hT hE hW cls_X0 (Or.inl (by decide)) (so_128 h0 g _) (by decide) rfl wn359 dX3_settle_33 ?_
        refine x_iload_n hx hb hl 3 rfl dX3_settle_36 rfl ?_
        refine x_goi (x_runVN (As := [.int (xJ i3_18)]) hx hb hml hown hT hE hW hl.1 (Or.inl (by decide)) (so_130 h0 g _) rfl cf_X7_layersAt wq899 wq61 wn1013 (c_X7_layersAt l D g T h0 s_18 hW.2.1 i3_18 ri3_18 q18_0) ⟨rfl, rfl, ⟨by decide, by decide⟩, ⟨by decide, by decide⟩⟩ rfl rfl (Nat.le_of_ble_eq_true rfl) dX3_settle_37) hW (fun x23 s24 H locs rx23 hp25 hW => ?_)
        obtain ⟨es24, hp25⟩ := hp25
        subst es24
        have ghp25 := hp25
        refine x_if_le (tgt := 47) hx hb rx23 dX3_settle_40 (by decide) (fun c26 => ?_) (fun c26 => ?_)
        · skip
          exact J47 H locs ls  hW (lv_sub hl [0, 1, 2, 3] rfl)
        refine x_iconst hx hb dX3_settle_43 ?_
        refine lv_goto (tgt := 48) hx hb dX3_settle_44 (by decide) ?_
        exact J48 1 H locs ls (by decide) (by omega) hW (lv_sub hl [0, 1, 2, 3] rfl)
    exact L18 ((100 + 1 - 0 : Int).toNat + 1) 0 s0 H locs ls (by decide) hF p0 k1_1 (by omega) (by omega) (Nat.lt_succ_self _) hW (lv_sub hl [1, 2, 3, 0] rfl)
  rw [eQ]
  exact x_vret hx hb hr hlk hW ⟨hF, ⟨p0, trivial⟩, trivial⟩ dX3_settle_15
set_option maxHeartbeats 4000000 in
set_option maxRecDepth 100000 in
theorem c_X3_fewestSteps (l : Launch) (D : va_G) (g : xG) (T : Nat × Nat × Nat) (h0 : Nat) (s0 : xS) (hσ : xRR s0) (a : Int) (ra : xR a) (n : Int) (rn : xR n) (b : Int) (rb : xR b) (p0 : IC s0) : Met l yX3_fewestSteps (xws yX3_fewestSteps cX3_fewestSteps 7 (some .int)) { frames := 5, cells := 0, slots := 0, locals := 120 } (xP [.ref (h0 + 156), .int (xJ a), .int (xJ n), .int (xJ b)] D g T h0 s0) (xQi D g h0 (fun r τ => xFr (fun k => (228 ≤ k ∧ k < 259) ∨ k = 115 ∨ k = 116 ∨ k = 130 ∨ k = 131 ∨ k = 132 ∨ k = 133 ∨ k = 158 ∨ k = 159 ∨ k = 160 ∨ k = 163 ∨ k = 164 ∨ k = 165 ∨ k = 166 ∨ k = 167 ∨ k = 228 ∨ k = 259 ∨ k = 260) s0 τ ∧ (((IC τ) ∧ True) ∧ (True)))) 0 0 (xA h0) := by
  refine x_met hσ (by decide) (Nat.le_of_ble_eq_true rfl) ?_
  intro p e s m args below meth c hx hb hr hml hown hT hlk hnm hE hW ls hl
  have hl : lv_has ls 7 [(0, .ref (h0 + 156)), (1, .int (xJ a)), (2, .int (xJ n)), (3, .int (xJ b))] := hl
  obtain ⟨Q, eQ⟩ : ∃ Q, Q = MQ below (xQi D g h0 (fun r τ => xFr (fun k => (228 ≤ k ∧ k < 259) ∨ k = 115 ∨ k = 116 ∨ k = 130 ∨ k = 131 ∨ k = 132 ∨ k = 133 ∨ k = 158 ∨ k = 159 ∨ k = 160 ∨ k = 163 ∨ k = 164 ∨ k = 165 ∨ k = 166 ∨ k = 167 ∨ k = 228 ∨ k = 259 ∨ k = 260) s0 τ ∧ (((IC τ) ∧ True) ∧ (True)))) args s 0 0 (xA h0) := ⟨_, rfl⟩
  rw [← eQ]
  generalize hHe : ([] : List Loc) = locs at hW ⊢
  obtain ⟨H, eH⟩ : ∃ H, H = s.heap := ⟨_, rfl⟩
  rw [← eH] at hW ⊢
  have hF : xFr (fun k => (228 ≤ k ∧ k < 259) ∨ k = 115 ∨ k = 116 ∨ k = 130 ∨ k = 131 ∨ k = 132 ∨ k = 133 ∨ k = 158 ∨ k = 159 ∨ k = 160 ∨ k = 163 ∨ k = 164 ∨ k = 165 ∨ k = 166 ∨ k = 167 ∨ k = 228 ∨ k = 259 ∨ k = 260) s0 s0 := xFr.rf
  have k1_1 : s0 1 1 = s0 1 1 := rfl
  refine x_iload_n hx hb hl 3 rfl dX3_fewestSteps_0 rfl ?_
  refine x_iconst hx hb dX3_fewestSteps_1 ?_
  refine x_bipush hx hb dX3_fewestSteps_2 (by decide) ?_
  refine x_goi (x_runSN (As := [.int (xJ b), .int (xJ 1), .int (xJ 30)]) hx hb hml hown hT hE hW hl.1 cf_X10_isIn wq562 wn989 (c_X10_isIn l D g T h0 s0 hW.2.1 b rb 1 (by decide) 30 (by decide)) ⟨rfl, rfl, ⟨by decide, by decide⟩, ⟨by decide, by decide⟩⟩ rfl rfl (Nat.le_of_ble_eq_true rfl) dX3_fewestSteps_4) hW (fun x1 s2 H locs rx1 hp3 hW => ?_)
  obtain ⟨es2, hp3⟩ := hp3
  subst es2
  have ghp3 := hp3
  refine x_if_eq (tgt := 17) hx hb rx1 dX3_fewestSteps_7 (by decide) (fun c4 => ?_) (fun c4 => ?_)
  · skip
    refine x_bipush hx hb dX3_fewestSteps_17 (by decide) ?_
    rw [eQ]
    exact x_iret hx hb hr hlk hW (by decide) ⟨hF, ⟨p0, trivial⟩, trivial⟩ dX3_fewestSteps_19
  refine x_iload_n hx hb hl 1 rfl dX3_fewestSteps_10 rfl ?_
  refine x_goi (x_runSN (As := [.int (xJ a)]) hx hb hml hown hT hE hW hl.1 cf_X6_isSpot wq831 wn990 (c_X6_isSpot l D g T h0 s0 hW.2.1 a ra) ⟨rfl, rfl, ⟨by decide, by decide⟩, ⟨by decide, by decide⟩⟩ rfl rfl (Nat.le_of_ble_eq_true rfl) dX3_fewestSteps_11) hW (fun x5 s6 H locs rx5 hp7 hW => ?_)
  obtain ⟨es6, hp7⟩ := hp7
  subst es6
  have ghp7 := hp7
  refine x_if_ne (tgt := 20) hx hb rx5 dX3_fewestSteps_14 (by decide) (fun c8 => ?_) (fun c8 => ?_)
  · skip
    refine x_iconst hx hb dX3_fewestSteps_20 ?_
    refine lv_istore (lv' := [(4, .int (xJ 0)), (0, .ref (h0 + 156)), (1, .int (xJ a)), (2, .int (xJ n)), (3, .int (xJ b))]) hx hb dX3_fewestSteps_21 hl (by decide) rfl (fun ls hl => ?_)
    have L23 : ∀ (fu : Nat) (i4_23 : Int) (s_23 : xS) (H : Heap) (locs : List Loc) (ls : Array Slot), (xR i4_23) → (xFr (fun k => (228 ≤ k ∧ k < 259) ∨ k = 115 ∨ k = 116 ∨ k = 130 ∨ k = 131 ∨ k = 132 ∨ k = 133 ∨ k = 158 ∨ k = 159 ∨ k = 160 ∨ k = 163 ∨ k = 164 ∨ k = 165 ∨ k = 166 ∨ k = 167 ∨ k = 228 ∨ k = 259 ∨ k = 260) s0 s_23) → (IC s_23) → (s_23 1 1 = s0 1 1) → (0 ≤ i4_23) → (b + 1 - i4_23).toNat < fu → xW D g h0 s H locs s_23 → lv_has ls 7 [(0, .ref (h0 + 156)), (1, .int (xJ a)), (2, .int (xJ n)), (3, .int (xJ b)), (4, .int (xJ i4_23))] → W p l e { frames := 5, cells := 0, slots := 0, locals := 120 } s m args below meth c H locs 0 0 Q (F0 m 23 ls []) := by
      intro fu
      induction fu with
      | zero => intro i4_23 s_23 H locs ls ri4_23 hF_23 q23_0 q23_1 v23_0 hm; exact absurd hm (Nat.not_lt_zero _)
      | succ fu ih23 =>
        intro i4_23 s_23 H locs ls ri4_23 hF_23 q23_0 q23_1 v23_0 hm hW hl
        refine x_iload hx hb hl 4 rfl dX3_fewestSteps_23 ?_
        refine x_iload_n hx hb hl 3 rfl dX3_fewestSteps_25 rfl ?_
        refine x_icmp_gt (tgt := 63) hx hb ri4_23 rb dX3_fewestSteps_26 (by decide) (fun c9 => ?_) (fun c9 => ?_)
        · skip
          refine x_aload_n hx hb hl 0 rfl dX3_fewestSteps_63 rfl ?_
          refine x_get (j := 8) (v := .ref (h0 + 227)) hx hb hown hT hE hW cls_X3 (Or.inl (by decide)) (so_156 h0 g _) (by decide) rfl wq461 dX3_fewestSteps_64 ?_
          refine x_iconst hx hb dX3_fewestSteps_67 ?_
          refine x_aaldR (t0 := 3) (n := 31) (r := 228) hx hb hE hW (by decide) rfl rfl (sg_227 h0 g _) ⟨by decide, by decide⟩ (by decide) rfl dX3_fewestSteps_68 ?_
          refine x_iload_n hx hb hl 1 rfl dX3_fewestSteps_69 rfl ?_
          refine x_iconst hx hb dX3_fewestSteps_70 ?_
          refine x_iast hx hb hE hW (by decide) (fun σ => sa_228 h0 g σ) (by omega) (by decide) (by decide) dX3_fewestSteps_71 (fun H locs s10 es10 hW => ?_)
          have q11 : IC s10 := by rw [es10]; exact IC_o (by decide) q23_0
          have q12 : s10 1 1 = s0 1 1 := (show s10 1 1 = s_23 1 1 from by rw [es10, xU_k _ _ _ (by omega)]).trans q23_1
          have hF13 := hF_23.put es10 (by omega)
          refine x_aload_n hx hb hl 0 rfl dX3_fewestSteps_72 rfl ?_
          refine x_gor (x_runV (As := []) hx hb hml hown hT hE hW hl.1 (Or.inl (by decide)) (so_156 h0 g _) rfl cf_X3_copyOfNow wq914 wq63 wq992 (c_X3_copyOfNow l D g T h0 s10 hW.2.1 q11) ⟨rfl, rfl, ⟨by decide, by decide⟩, ⟨by decide, by decide⟩⟩ rfl rfl (Nat.le_of_ble_eq_true rfl) dX3_fewestSteps_73) hW (fun x14 s15 H locs hp16 hW => ?_)
          obtain ⟨ex14, hp16⟩ := hp16
          subst ex14
          obtain ⟨fs15, hp16⟩ := hp16
          have hF17 := hF13.call fs15 (fun k h => by omega)
          have q18 : s15 1 1 = s0 1 1 := (congrFun (fs15 _ (by omega)) _).trans q12
          have ghp16 := hp16.2
          refine lv_astore (lv' := [(4, .ref (h0 + 158)), (0, .ref (h0 + 156)), (1, .int (xJ a)), (2, .int (xJ n)), (3, .int (xJ b))]) hx hb dX3_fewestSteps_76 hl (by decide) rfl (fun ls hl => ?_)
          refine x_iconst hx hb dX3_fewestSteps_78 ?_
          refine lv_istore (lv' := [(5, .int (xJ 0)), (4, .ref (h0 + 158)), (0, .ref (h0 + 156)), (1, .int (xJ a)), (2, .int (xJ n)), (3, .int (xJ b))]) hx hb dX3_fewestSteps_79 hl (by decide) rfl (fun ls hl => ?_)
          have L81 : ∀ (fu : Nat) (i5_81 : Int) (s_81 : xS) (H : Heap) (locs : List Loc) (ls : Array Slot), (xR i5_81) → (xFr (fun k => (228 ≤ k ∧ k < 259) ∨ k = 115 ∨ k = 116 ∨ k = 130 ∨ k = 131 ∨ k = 132 ∨ k = 133 ∨ k = 158 ∨ k = 159 ∨ k = 160 ∨ k = 163 ∨ k = 164 ∨ k = 165 ∨ k = 166 ∨ k = 167 ∨ k = 228 ∨ k = 259 ∨ k = 260) s0 s_81) → (s_81 1 1 = s0 1 1) → (IC s_81) → (0 ≤ i5_81) → (n + 1 - i5_81).toNat < fu → xW D g h0 s H locs s_81 → lv_has ls 7 [(0, .ref (h0 + 156)), (2, .int (xJ n)), (3, .int (xJ b)), (4, .ref (h0 + 158)), (5, .int (xJ i5_81))] → W p l e { frames := 5, cells := 0, slots := 0, locals := 120 } s m args below meth c H locs 0 0 Q (F0 m 81 ls []) := by
            intro fu
            induction fu with
            | zero => intro i5_81 s_81 H locs ls ri5_81 hF_81 q81_0 q81_1 v81_0 hm; exact absurd hm (Nat.not_lt_zero _)
            | succ fu ih81 =>
              intro i5_81 s_81 H locs ls ri5_81 hF_81 q81_0 q81_1 v81_0 hm hW hl
              refine x_iload hx hb hl 4 rfl dX3_fewestSteps_81 ?_
              refine x_iload_n hx hb hl 1 rfl dX3_fewestSteps_83 rfl ?_
              refine x_icmp_ge (tgt := 142) hx hb ri5_81 rn dX3_fewestSteps_84 (by decide) (fun c19 => ?_) (fun c19 => ?_)
              · skip
                refine lv_ldc (v := xJ 1000000) hx hb hown (hT _ wq991) dX3_fewestSteps_142 ?_
                refine lv_istore (lv' := [(5, .int (xJ 1000000)), (0, .ref (h0 + 156)), (2, .int (xJ n)), (3, .int (xJ b)), (4, .ref (h0 + 158))]) hx hb dX3_fewestSteps_144 hl (by decide) rfl (fun ls hl => ?_)
                refine x_iconst hx hb dX3_fewestSteps_146 ?_
                refine lv_istore (lv' := [(6, .int (xJ 0)), (5, .int (xJ 1000000)), (0, .ref (h0 + 156)), (2, .int (xJ n)), (3, .int (xJ b)), (4, .ref (h0 + 158))]) hx hb dX3_fewestSteps_147 hl (by decide) rfl (fun ls hl => ?_)
                have L149 : ∀ (fu : Nat) (i5_149 : Int) (i6_149 : Int) (ls : Array Slot), (xR i5_149) → (xR i6_149) → (0 ≤ i6_149) → (i6_149 ≤ 100) → (100 + 1 - i6_149).toNat < fu → lv_has ls 7 [(0, .ref (h0 + 156)), (3, .int (xJ b)), (5, .int (xJ i5_149)), (6, .int (xJ i6_149))] → W p l e { frames := 5, cells := 0, slots := 0, locals := 120 } s m args below meth c H locs 0 0 Q (F0 m 149 ls []) := by
                  intro fu
                  induction fu with
                  | zero => intro i5_149 i6_149 ls ri5_149 ri6_149 v149_0 v149_1 hm; exact absurd hm (Nat.not_lt_zero _)
                  | succ fu ih149 =>
                    intro i5_149 i6_149 ls ri5_149 ri6_149 v149_0 v149_1 hm  hl
                    refine x_iload hx hb hl 3 rfl dX3_fewestSteps_149 ?_
                    refine x_bipush hx hb dX3_fewestSteps_151 (by decide) ?_
                    refine x_icmp_ge (tgt := 178) hx hb ri6_149 (by decide) dX3_fewestSteps_153 (by decide) (fun c20 => ?_) (fun c20 => ?_)
                    · skip
                      refine x_iload hx hb hl 2 rfl dX3_fewestSteps_178 ?_
                      refine lv_ldc (v := xJ 1000000) hx hb hown (hT _ wq991) dX3_fewestSteps_180 ?_
                      refine x_icmp_lt (tgt := 190) hx hb ri5_149 (by decide) dX3_fewestSteps_182 (by decide) (fun c21 => ?_) (fun c21 => ?_)
                      · skip
                        refine x_iload hx hb hl 2 rfl dX3_fewestSteps_190 ?_
                        rw [eQ]
                        exact x_iret hx hb hr hlk hW ri5_149 ⟨hF_81, ⟨q81_1, trivial⟩, trivial⟩ dX3_fewestSteps_192
                      refine x_bipush hx hb dX3_fewestSteps_185 (by decide) ?_
                      refine lv_goto (tgt := 192) hx hb dX3_fewestSteps_187 (by decide) ?_
                      rw [eQ]
                      exact x_iret hx hb hr hlk hW (by decide) ⟨hF_81, ⟨q81_1, trivial⟩, trivial⟩ dX3_fewestSteps_192
                    refine x_iload hx hb hl 2 rfl dX3_fewestSteps_156 ?_
                    refine x_aload_n hx hb hl 0 rfl dX3_fewestSteps_158 rfl ?_
                    refine x_get (j := 8) (v := .ref (h0 + 227)) hx hb hown hT hE hW cls_X3 (Or.inl (by decide)) (so_156 h0 g _) (by decide) rfl wq461 dX3_fewestSteps_159 ?_
                    refine x_iload_n hx hb hl 1 rfl dX3_fewestSteps_162 rfl ?_
                    refine x_aaldR (t0 := 3) (n := 31) (r := 228 + (b).toNat) hx hb hE hW (by decide) rfl rfl (sg_227 h0 g _) (by omega) (by decide) rfl dX3_fewestSteps_163 ?_
                    refine x_iload hx hb hl 3 rfl dX3_fewestSteps_164 ?_
                    refine x_iald hx hb hE hW (Or.inl (by omega)) (sa_least0 h0 g (by omega) _) (by omega) (by decide) dX3_fewestSteps_166 ?_
                    refine x_rd hW (fun x22 ex22 rx22 => ?_)
                    refine x_mmin hx hb hml hl.1 hown hT wq997 wq569 wq180 wq570 ⟨by decide, Nat.le_of_ble_eq_true rfl, by decide, by decide⟩ ri5_149 rx22 dX3_fewestSteps_167 ?_
                    refine x_nm (fun x23 ex23 => ?_)
                    have fx23 : (x23 = i5_149 ∧ i5_149 ≤ x22) ∨ (x23 = x22 ∧ x22 ≤ i5_149) := by rw [ex23]; split <;> omega
                    refine lv_istore (lv' := [(5, .int (xJ x23)), (0, .ref (h0 + 156)), (3, .int (xJ b)), (6, .int (xJ i6_149))]) hx hb dX3_fewestSteps_170 hl (by decide) rfl (fun ls hl => ?_)
                    refine x_iinc (lv' := [(6, .int (xJ (i6_149 + 1))), (5, .int (xJ x23)), (0, .ref (h0 + 156)), (3, .int (xJ b))]) hx hb hl 3 rfl dX3_fewestSteps_172 (by decide) rfl (fun ls hl => ?_)
                    refine lv_goto (tgt := 149) hx hb dX3_fewestSteps_175 (by decide) ?_
                    exact ih149 x23 (i6_149 + 1) ls (by omega) (by omega) (by omega) (by omega) (by omega)  (lv_sub hl [2, 3, 1, 0] rfl)
                exact L149 ((100 + 1 - 0 : Int).toNat + 1) 1000000 0 ls (by decide) (by decide) (by omega) (by omega) (Nat.lt_succ_self _)  (lv_sub hl [2, 4, 1, 0] rfl)
              refine x_aload_n hx hb hl 0 rfl dX3_fewestSteps_87 rfl ?_
              refine x_get (j := 0) (v := .ref (h0 + 128)) hx hb hown hT hE hW cls_X3 (Or.inl (by decide)) (so_156 h0 g _) (by decide) rfl wq450 dX3_fewestSteps_88 ?_
              refine x_aload hx hb hl 3 rfl dX3_fewestSteps_91 ?_
              refine x_goi (x_runVN (As := [.ref (h0 + 158)]) hx hb hml hown hT hE hW hl.1 (Or.inl (by decide)) (so_128 h0 g _) rfl cf_X0_walkOn wq995 wq76 wn993 (c_X0_walkOn l D g T h0 s_81 hW.2.1 158 xd_158 q81_1) ⟨rfl, rfl, ⟨by decide, by decide⟩, ⟨by decide, by decide⟩⟩ rfl rfl (Nat.le_of_ble_eq_true rfl) dX3_fewestSteps_93) hW (fun x24 s25 H locs rx24 hp26 hW => ?_)
              obtain ⟨fs25, hp26⟩ := hp26
              have hF27 := hF_81.call fs25 (fun k h => by omega)
              have q28 : s25 1 1 = s0 1 1 := (congrFun (fs25 _ (by omega)) _).trans q81_0
              have ghp26 := hp26.2
              refine x_if_eq (tgt := 142) hx hb rx24 dX3_fewestSteps_96 (by decide) (fun c29 => ?_) (fun c29 => ?_)
              · skip
                refine lv_ldc (v := xJ 1000000) hx hb hown (hT _ wq991) dX3_fewestSteps_142 ?_
                refine lv_istore (lv' := [(5, .int (xJ 1000000)), (0, .ref (h0 + 156)), (2, .int (xJ n)), (3, .int (xJ b)), (4, .ref (h0 + 158))]) hx hb dX3_fewestSteps_144 hl (by decide) rfl (fun ls hl => ?_)
                refine x_iconst hx hb dX3_fewestSteps_146 ?_
                refine lv_istore (lv' := [(6, .int (xJ 0)), (5, .int (xJ 1000000)), (0, .ref (h0 + 156)), (2, .int (xJ n)), (3, .int (xJ b)), (4, .ref (h0 + 158))]) hx hb dX3_fewestSteps_147 hl (by decide) rfl (fun ls hl => ?_)
                have L149 : ∀ (fu : Nat) (i5_149 : Int) (i6_149 : Int) (ls : Array Slot), (xR i5_149) → (xR i6_149) → (0 ≤ i6_149) → (i6_149 ≤ 100) → (100 + 1 - i6_149).toNat < fu → lv_has ls 7 [(0, .ref (h0 + 156)), (3, .int (xJ b)), (5, .int (xJ i5_149)), (6, .int (xJ i6_149))] → W p l e { frames := 5, cells := 0, slots := 0, locals := 120 } s m args below meth c H locs 0 0 Q (F0 m 149 ls []) := by
                  intro fu
                  induction fu with
                  | zero => intro i5_149 i6_149 ls ri5_149 ri6_149 v149_0 v149_1 hm; exact absurd hm (Nat.not_lt_zero _)
                  | succ fu ih149 =>
                    intro i5_149 i6_149 ls ri5_149 ri6_149 v149_0 v149_1 hm  hl
                    refine x_iload hx hb hl 3 rfl dX3_fewestSteps_149 ?_
                    refine x_bipush hx hb dX3_fewestSteps_151 (by decide) ?_
                    refine x_icmp_ge (tgt := 178) hx hb ri6_149 (by decide) dX3_fewestSteps_153 (by decide) (fun c30 => ?_) (fun c30 => ?_)
                    · skip
                      refine x_iload hx hb hl 2 rfl dX3_fewestSteps_178 ?_
                      refine lv_ldc (v := xJ 1000000) hx hb hown (hT _ wq991) dX3_fewestSteps_180 ?_
                      refine x_icmp_lt (tgt := 190) hx hb ri5_149 (by decide) dX3_fewestSteps_182 (by decide) (fun c31 => ?_) (fun c31 => ?_)
                      · skip
                        refine x_iload hx hb hl 2 rfl dX3_fewestSteps_190 ?_
                        rw [eQ]
                        exact x_iret hx hb hr hlk hW ri5_149 ⟨hF27, ⟨hp26.1.1, trivial⟩, trivial⟩ dX3_fewestSteps_192
                      refine x_bipush hx hb dX3_fewestSteps_185 (by decide) ?_
                      refine lv_goto (tgt := 192) hx hb dX3_fewestSteps_187 (by decide) ?_
                      rw [eQ]
                      exact x_iret hx hb hr hlk hW (by decide) ⟨hF27, ⟨hp26.1.1, trivial⟩, trivial⟩ dX3_fewestSteps_192
                    refine x_iload hx hb hl 2 rfl dX3_fewestSteps_156 ?_
                    refine x_aload_n hx hb hl 0 rfl dX3_fewestSteps_158 rfl ?_
                    refine x_get (j := 8) (v := .ref (h0 + 227)) hx hb hown hT hE hW cls_X3 (Or.inl (by decide)) (so_156 h0 g _) (by decide) rfl wq461 dX3_fewestSteps_159 ?_
                    refine x_iload_n hx hb hl 1 rfl dX3_fewestSteps_162 rfl ?_
                    refine x_aaldR (t0 := 3) (n := 31) (r := 228 + (b).toNat) hx hb hE hW (by decide) rfl rfl (sg_227 h0 g _) (by omega) (by decide) rfl dX3_fewestSteps_163 ?_
                    refine x_iload hx hb hl 3 rfl dX3_fewestSteps_164 ?_
                    refine x_iald hx hb hE hW (Or.inl (by omega)) (sa_least0 h0 g (by omega) _) (by omega) (by decide) dX3_fewestSteps_166 ?_
                    refine x_rd hW (fun x32 ex32 rx32 => ?_)
                    refine x_mmin hx hb hml hl.1 hown hT wq997 wq569 wq180 wq570 ⟨by decide, Nat.le_of_ble_eq_true rfl, by decide, by decide⟩ ri5_149 rx32 dX3_fewestSteps_167 ?_
                    refine x_nm (fun x33 ex33 => ?_)
                    have fx33 : (x33 = i5_149 ∧ i5_149 ≤ x32) ∨ (x33 = x32 ∧ x32 ≤ i5_149) := by rw [ex33]; split <;> omega
                    refine lv_istore (lv' := [(5, .int (xJ x33)), (0, .ref (h0 + 156)), (3, .int (xJ b)), (6, .int (xJ i6_149))]) hx hb dX3_fewestSteps_170 hl (by decide) rfl (fun ls hl => ?_)
                    refine x_iinc (lv' := [(6, .int (xJ (i6_149 + 1))), (5, .int (xJ x33)), (0, .ref (h0 + 156)), (3, .int (xJ b))]) hx hb hl 3 rfl dX3_fewestSteps_172 (by decide) rfl (fun ls hl => ?_)
                    refine lv_goto (tgt := 149) hx hb dX3_fewestSteps_175 (by decide) ?_
                    exact ih149 x33 (i6_149 + 1) ls (by omega) (by omega) (by omega) (by omega) (by omega)  (lv_sub hl [2, 3, 1, 0] rfl)
                exact L149 ((100 + 1 - 0 : Int).toNat + 1) 1000000 0 ls (by decide) (by decide) (by omega) (by omega) (Nat.lt_succ_self _)  (lv_sub hl [2, 4, 1, 0] rfl)
              refine x_iload hx hb hl 4 rfl dX3_fewestSteps_99 ?_
              refine x_iload_n hx hb hl 2 rfl dX3_fewestSteps_101 rfl ?_
              refine x_mmin hx hb hml hl.1 hown hT wq997 wq569 wq180 wq570 ⟨by decide, Nat.le_of_ble_eq_true rfl, by decide, by decide⟩ ri5_81 rb dX3_fewestSteps_102 ?_
              refine x_nm (fun x34 ex34 => ?_)
              have fx34 : (x34 = i5_81 ∧ i5_81 ≤ b) ∨ (x34 = b ∧ b ≤ i5_81) := by rw [ex34]; split <;> omega
              refine lv_istore (lv' := [(6, .int (xJ x34)), (0, .ref (h0 + 156)), (2, .int (xJ n)), (3, .int (xJ b)), (4, .ref (h0 + 158)), (5, .int (xJ i5_81))]) hx hb dX3_fewestSteps_105 hl (by decide) rfl (fun ls hl => ?_)
              have L107 : ∀ (fu : Nat) (i6_107 : Int) (s_107 : xS) (H : Heap) (locs : List Loc) (ls : Array Slot), (xR i6_107) → (xFr (fun k => (228 ≤ k ∧ k < 259) ∨ k = 115 ∨ k = 116 ∨ k = 130 ∨ k = 131 ∨ k = 132 ∨ k = 133 ∨ k = 158 ∨ k = 159 ∨ k = 160 ∨ k = 163 ∨ k = 164 ∨ k = 165 ∨ k = 166 ∨ k = 167 ∨ k = 228 ∨ k = 259 ∨ k = 260) s0 s_107) → (s_107 1 1 = s0 1 1) → (IC s_107) → (-1 ≤ i6_107 ∧ i6_107 ≤ b) → (i6_107 + 1).toNat < fu → xW D g h0 s H locs s_107 → lv_has ls 7 [(0, .ref (h0 + 156)), (2, .int (xJ n)), (3, .int (xJ b)), (4, .ref (h0 + 158)), (5, .int (xJ i5_81)), (6, .int (xJ i6_107))] → W p l e { frames := 5, cells := 0, slots := 0, locals := 120 } s m args below meth c H locs 0 0 Q (F0 m 107 ls []) := by
                intro fu
                induction fu with
                | zero => intro i6_107 s_107 H locs ls ri6_107 hF_107 q107_0 q107_1 v107_0 hm; exact absurd hm (Nat.not_lt_zero _)
                | succ fu ih107 =>
                  intro i6_107 s_107 H locs ls ri6_107 hF_107 q107_0 q107_1 v107_0 hm hW hl
                  refine x_iload hx hb hl 5 rfl dX3_fewestSteps_107 ?_
                  refine x_if_lt (tgt := 136) hx hb ri6_107 dX3_fewestSteps_109 (by decide) (fun c35 => ?_) (fun c35 => ?_)
                  · skip
                    refine x_iinc (lv' := [(5, .int (xJ (i5_81 + 1))), (0, .ref (h0 + 156)), (2, .int (xJ n)), (3, .int (xJ b)), (4, .ref (h0 + 158)), (6, .int (xJ i6_107))]) hx hb hl 4 rfl dX3_fewestSteps_136 (by decide) rfl (fun ls hl => ?_)
                    refine lv_goto (tgt := 81) hx hb dX3_fewestSteps_139 (by decide) ?_
                    exact ih81 (i5_81 + 1) s_107 H locs ls (by omega) hF_107 q107_0 q107_1 (by omega) (by omega) hW (lv_sub hl [1, 2, 3, 4, 0] rfl)
                  refine x_aload_n hx hb hl 0 rfl dX3_fewestSteps_112 rfl ?_
                  refine x_aload_n hx hb hl 0 rfl dX3_fewestSteps_113 rfl ?_
                  refine x_get (j := 8) (v := .ref (h0 + 227)) hx hb hown hT hE hW cls_X3 (Or.inl (by decide)) (so_156 h0 g _) (by decide) rfl wq461 dX3_fewestSteps_114 ?_
                  refine x_iload hx hb hl 5 rfl dX3_fewestSteps_117 ?_
                  refine x_aaldR (t0 := 3) (n := 31) (r := 228 + (i6_107).toNat) hx hb hE hW (by decide) rfl rfl (sg_227 h0 g _) (by omega) (by decide) rfl dX3_fewestSteps_119 ?_
                  refine x_gov (x_runV (As := [.ref (h0 + (228 + (i6_107).toNat))]) hx hb hml hown hT hE hW hl.1 (Or.inl (by decide)) (so_156 h0 g _) rfl cf_X3_spreadSteps wq1000 wq77 wq998 (c_X3_spreadSteps l D g T h0 s_107 hW.2.1 (228 + (i6_107).toNat) (by omega) (by unfold nsC; omega) (fun σ => sa_least0 h0 g (by omega) σ) q107_1) ⟨rfl, rfl, ⟨by decide, by decide⟩, ⟨by decide, by decide⟩⟩ rfl rfl (Nat.le_of_ble_eq_true rfl) dX3_fewestSteps_120) hW (fun s37 H locs hp38 hW => ?_)
                  obtain ⟨fs37, hp38⟩ := hp38
                  have hF39 := hF_107.call fs37 (fun k h => by omega)
                  have q40 : s37 1 1 = s0 1 1 := (congrFun (fs37 _ (by omega)) _).trans q107_0
                  have ghp38 := hp38.2
                  refine x_aload_n hx hb hl 0 rfl dX3_fewestSteps_123 rfl ?_
                  refine x_iload hx hb hl 5 rfl dX3_fewestSteps_124 ?_
                  refine x_iload_n hx hb hl 2 rfl dX3_fewestSteps_126 rfl ?_
                  refine x_gov (x_runV (As := [.int (xJ i6_107), .int (xJ b)]) hx hb hml hown hT hE hW hl.1 (Or.inl (by decide)) (so_156 h0 g _) rfl cf_X3_settle wq1011 wq79 wq1009 (c_X3_settle l D g T h0 s37 hW.2.1 i6_107 ri6_107 b rb hp38.1.1) ⟨rfl, rfl, ⟨by decide, by decide⟩, ⟨by decide, by decide⟩⟩ rfl rfl (Nat.le_of_ble_eq_true rfl) dX3_fewestSteps_127) hW (fun s42 H locs hp43 hW => ?_)
                  obtain ⟨fs42, hp43⟩ := hp43
                  have hF44 := hF39.call fs42 (fun k h => by omega)
                  have q45 : s42 1 1 = s0 1 1 := (congrFun (fs42 _ (by omega)) _).trans q40
                  have ghp43 := hp43.2
                  refine x_iinc (lv' := [(6, .int (xJ (i6_107 + (-1)))), (0, .ref (h0 + 156)), (2, .int (xJ n)), (3, .int (xJ b)), (4, .ref (h0 + 158)), (5, .int (xJ i5_81))]) hx hb hl 5 rfl dX3_fewestSteps_130 (by decide) rfl (fun ls hl => ?_)
                  refine lv_goto (tgt := 107) hx hb dX3_fewestSteps_133 (by decide) ?_
                  exact ih107 (i6_107 + (-1)) s42 H locs ls (by omega) hF44 q45 hp43.1.1 (by omega) (by omega) hW (lv_sub hl [1, 2, 3, 4, 5, 0] rfl)
              exact L107 ((x34 + 1 : Int).toNat + 1) x34 s25 H locs ls (by omega) hF27 q28 hp26.1.1 (by omega) (Nat.lt_succ_self _) hW (lv_sub hl [1, 2, 3, 4, 5, 0] rfl)
          exact L81 ((n + 1 - 0 : Int).toNat + 1) 0 s15 H locs ls (by decide) hF17 q18 hp16.1.1 (by omega) (Nat.lt_succ_self _) hW (lv_sub hl [2, 4, 5, 1, 0] rfl)
        refine x_iconst hx hb dX3_fewestSteps_29 ?_
        refine lv_istore (lv' := [(5, .int (xJ 0)), (0, .ref (h0 + 156)), (1, .int (xJ a)), (2, .int (xJ n)), (3, .int (xJ b)), (4, .int (xJ i4_23))]) hx hb dX3_fewestSteps_30 hl (by decide) rfl (fun ls hl => ?_)
        have L32 : ∀ (fu : Nat) (i5_32 : Int) (s_32 : xS) (H : Heap) (locs : List Loc) (ls : Array Slot), (xR i5_32) → (xFr (fun k => (228 ≤ k ∧ k < 259) ∨ k = 115 ∨ k = 116 ∨ k = 130 ∨ k = 131 ∨ k = 132 ∨ k = 133 ∨ k = 158 ∨ k = 159 ∨ k = 160 ∨ k = 163 ∨ k = 164 ∨ k = 165 ∨ k = 166 ∨ k = 167 ∨ k = 228 ∨ k = 259 ∨ k = 260) s0 s_32) → (IC s_32) → (s_32 1 1 = s0 1 1) → (0 ≤ i5_32) → (i5_32 ≤ 100) → (100 + 1 - i5_32).toNat < fu → xW D g h0 s H locs s_32 → lv_has ls 7 [(0, .ref (h0 + 156)), (1, .int (xJ a)), (2, .int (xJ n)), (3, .int (xJ b)), (4, .int (xJ i4_23)), (5, .int (xJ i5_32))] → W p l e { frames := 5, cells := 0, slots := 0, locals := 120 } s m args below meth c H locs 0 0 Q (F0 m 32 ls []) := by
          intro fu
          induction fu with
          | zero => intro i5_32 s_32 H locs ls ri5_32 hF_32 q32_0 q32_1 v32_0 v32_1 hm; exact absurd hm (Nat.not_lt_zero _)
          | succ fu ih32 =>
            intro i5_32 s_32 H locs ls ri5_32 hF_32 q32_0 q32_1 v32_0 v32_1 hm hW hl
            refine x_iload hx hb hl 5 rfl dX3_fewestSteps_32 ?_
            refine x_bipush hx hb dX3_fewestSteps_34 (by decide) ?_
            refine x_icmp_ge (tgt := 57) hx hb ri5_32 (by decide) dX3_fewestSteps_36 (by decide) (fun c46 => ?_) (fun c46 => ?_)
            · skip
              refine x_iinc (lv' := [(4, .int (xJ (i4_23 + 1))), (0, .ref (h0 + 156)), (1, .int (xJ a)), (2, .int (xJ n)), (3, .int (xJ b)), (5, .int (xJ i5_32))]) hx hb hl 4 rfl dX3_fewestSteps_57 (by decide) rfl (fun ls hl => ?_)
              refine lv_goto (tgt := 23) hx hb dX3_fewestSteps_60 (by decide) ?_
              exact ih23 (i4_23 + 1) s_32 H locs ls (by omega) hF_32 q32_0 q32_1 (by omega) (by omega) hW (lv_sub hl [1, 2, 3, 4, 0] rfl)
            refine x_aload_n hx hb hl 0 rfl dX3_fewestSteps_39 rfl ?_
            refine x_get (j := 8) (v := .ref (h0 + 227)) hx hb hown hT hE hW cls_X3 (Or.inl (by decide)) (so_156 h0 g _) (by decide) rfl wq461 dX3_fewestSteps_40 ?_
            refine x_iload hx hb hl 4 rfl dX3_fewestSteps_43 ?_
            refine x_aaldR (t0 := 3) (n := 31) (r := 228 + (i4_23).toNat) hx hb hE hW (by decide) rfl rfl (sg_227 h0 g _) (by omega) (by decide) rfl dX3_fewestSteps_45 ?_
            refine x_iload hx hb hl 5 rfl dX3_fewestSteps_46 ?_
            refine lv_ldc (v := xJ 1000000) hx hb hown (hT _ wq991) dX3_fewestSteps_48 ?_
            refine x_iast hx hb hE hW (by omega) (fun σ => sa_least0 h0 g (by omega) σ) (by omega) (by decide) (by decide) dX3_fewestSteps_50 (fun H locs s47 es47 hW => ?_)
            have q48 : IC s47 := by rw [es47]; exact IC_o (by unfold nsC; omega) q32_0
            have q49 : s47 1 1 = s0 1 1 := (show s47 1 1 = s_32 1 1 from by rw [es47, xU_k _ _ _ (by omega)]).trans q32_1
            have hF50 := hF_32.put es47 (by omega)
            refine x_iinc (lv' := [(5, .int (xJ (i5_32 + 1))), (0, .ref (h0 + 156)), (1, .int (xJ a)), (2, .int (xJ n)), (3, .int (xJ b)), (4, .int (xJ i4_23))]) hx hb hl 5 rfl dX3_fewestSteps_51 (by decide) rfl (fun ls hl => ?_)
            refine lv_goto (tgt := 32) hx hb dX3_fewestSteps_54 (by decide) ?_
            exact ih32 (i5_32 + 1) s47 H locs ls (by omega) hF50 q48 q49 (by omega) (by omega) (by omega) hW (lv_sub hl [1, 2, 3, 4, 5, 0] rfl)
        exact L32 ((100 + 1 - 0 : Int).toNat + 1) 0 s_23 H locs ls (by decide) hF_23 q23_0 q23_1 (by omega) (by omega) (Nat.lt_succ_self _) hW (lv_sub hl [1, 2, 3, 4, 5, 0] rfl)
    exact L23 ((b + 1 - 0 : Int).toNat + 1) 0 s0 H locs ls (by decide) hF p0 k1_1 (by omega) (Nat.lt_succ_self _) hW (lv_sub hl [1, 2, 3, 4, 0] rfl)
  refine x_bipush hx hb dX3_fewestSteps_17 (by decide) ?_
  rw [eQ]
  exact x_iret hx hb hr hlk hW (by decide) ⟨hF, ⟨p0, trivial⟩, trivial⟩ dX3_fewestSteps_19


theorem cls_X5 : xCls RX5 TX5 2 5 tyX5 := ⟨xin [296, 298] (by decide +kernel) (by decide +kernel), rfl, tyX5_ok, nmX5⟩
theorem cf_X4_empty : xCF yX4_empty cX4_empty 1 none 0 := ⟨xq 640 (by decide +kernel) rfl, xq 171 (by decide +kernel) rfl, by decide +kernel⟩
theorem cf_X4_landSkip : xCF yX4_landSkip cX4_landSkip 2 none 1 := ⟨xq 693 (by decide +kernel) rfl, xq 171 (by decide +kernel) rfl, by decide +kernel⟩
theorem cf_X4_placeOfLetter : xCF yX4_placeOfLetter cX4_placeOfLetter 2 (some .int) 1 := ⟨xq 677 (by decide +kernel) rfl, xq 171 (by decide +kernel) rfl, by decide +kernel⟩
theorem cf_X4_put : xCF yX4_put cX4_put 4 (some .int) 2 := ⟨xq 673 (by decide +kernel) rfl, xq 171 (by decide +kernel) rfl, by decide +kernel⟩
theorem cf_X5_isKind : xCF yX5_isKind cX5_isKind 1 (some .boolean) 1 := ⟨xq 644 (by decide +kernel) rfl, xq 172 (by decide +kernel) rfl, by decide +kernel⟩
theorem cf_X5_readClause : xCF yX5_readClause cX5_readClause 3 (some .boolean) 2 := ⟨xq 649 (by decide +kernel) rfl, xq 172 (by decide +kernel) rfl, by decide +kernel⟩
theorem cf_X5_readFactor : xCF yX5_readFactor cX5_readFactor 4 (some .boolean) 1 := ⟨xq 661 (by decide +kernel) rfl, xq 172 (by decide +kernel) rfl, by decide +kernel⟩
theorem cf_X5_readNumber : xCF yX5_readNumber cX5_readNumber 3 (some .boolean) 0 := ⟨xq 669 (by decide +kernel) rfl, xq 172 (by decide +kernel) rfl, by decide +kernel⟩
theorem cf_X5_readParts : xCF yX5_readParts cX5_readParts 4 (some .boolean) 1 := ⟨xq 681 (by decide +kernel) rfl, xq 172 (by decide +kernel) rfl, by decide +kernel⟩
theorem cf_X5_readPiece : xCF yX5_readPiece cX5_readPiece 5 (some .boolean) 1 := ⟨xq 689 (by decide +kernel) rfl, xq 172 (by decide +kernel) rfl, by decide +kernel⟩
theorem cf_X5_readPieces : xCF yX5_readPieces cX5_readPieces 4 (some .boolean) 1 := ⟨xq 685 (by decide +kernel) rfl, xq 172 (by decide +kernel) rfl, by decide +kernel⟩
theorem cf_X5_readSum : xCF yX5_readSum cX5_readSum 4 (some .boolean) 1 := ⟨xq 653 (by decide +kernel) rfl, xq 172 (by decide +kernel) rfl, by decide +kernel⟩
theorem cf_X5_readTerm : xCF yX5_readTerm cX5_readTerm 4 (some .boolean) 1 := ⟨xq 657 (by decide +kernel) rfl, xq 172 (by decide +kernel) rfl, by decide +kernel⟩
theorem cf_X8_isDigit : xCF yX8_isDigit cX8_isDigit 1 (some .boolean) 0 := ⟨xq 665 (by decide +kernel) rfl, xq 169 (by decide +kernel) rfl, by decide +kernel⟩
theorem cf_X8_passes : xCF yX8_passes cX8_passes 2 (some .boolean) 1 := ⟨xq 599 (by decide +kernel) rfl, xq 169 (by decide +kernel) rfl, by decide +kernel⟩
theorem wq6 : Cond.selects yX8_passes.cls yX8_passes yX8_passes ∈ xTB := xq 6 (by decide +kernel) rfl
theorem wq14 : Cond.selects yX4_empty.cls yX4_empty yX4_empty ∈ xTB := xq 14 (by decide +kernel) rfl
theorem wq15 : Cond.selects yX5_readClause.cls yX5_readClause yX5_readClause ∈ xTB := xq 15 (by decide +kernel) rfl
theorem wq16 : Cond.selects yX5_readSum.cls yX5_readSum yX5_readSum ∈ xTB := xq 16 (by decide +kernel) rfl
theorem wq17 : Cond.selects yX5_readTerm.cls yX5_readTerm yX5_readTerm ∈ xTB := xq 17 (by decide +kernel) rfl
theorem wq18 : Cond.selects yX5_readFactor.cls yX5_readFactor yX5_readFactor ∈ xTB := xq 18 (by decide +kernel) rfl
theorem wq19 : Cond.selects yX8_isDigit.cls yX8_isDigit yX8_isDigit ∈ xTB := xq 19 (by decide +kernel) rfl
theorem wq20 : Cond.selects yX5_readNumber.cls yX5_readNumber yX5_readNumber ∈ xTB := xq 20 (by decide +kernel) rfl
theorem wq21 : Cond.selects yX4_put.cls yX4_put yX4_put ∈ xTB := xq 21 (by decide +kernel) rfl
theorem wq22 : Cond.selects yX5_readParts.cls yX5_readParts yX5_readParts ∈ xTB := xq 22 (by decide +kernel) rfl
theorem wq23 : Cond.selects yX5_readPieces.cls yX5_readPieces yX5_readPieces ∈ xTB := xq 23 (by decide +kernel) rfl
theorem wq24 : Cond.selects yX5_readPiece.cls yX5_readPiece yX5_readPiece ∈ xTB := xq 24 (by decide +kernel) rfl
theorem wq25 : Cond.selects yX4_landSkip.cls yX4_landSkip yX4_landSkip ∈ xTB := xq 25 (by decide +kernel) rfl
theorem wq293 : Cond.fieldLink "ShadowCourt$LawReader" (9) "ShadowCourt$LawReader" "tape" "LShadowCourt$Tape;" ∈ xTB := xq 293 (by decide +kernel) rfl
theorem wq294 : Cond.fieldLink "ShadowCourt$LawReader" (18) "ShadowCourt$LawReader" "written" "LShadowCourt$Law;" ∈ xTB := xq 294 (by decide +kernel) rfl
theorem wq598 : Cond.instanceMethod yX8_passes ∈ xTB := xq 598 (by decide +kernel) rfl
theorem wq639 : Cond.instanceMethod yX4_empty ∈ xTB := xq 639 (by decide +kernel) rfl
theorem wq642 : Cond.methodLink "ShadowCourt$LawReader" (31) yX5_isKind ∈ xTB := xq 642 (by decide +kernel) rfl
theorem wq643 : Cond.static yX5_isKind ∈ xTB := xq 643 (by decide +kernel) rfl
theorem wq646 : Cond.methodLink "ShadowCourt$LawReader" (43) yX5_readClause ∈ xTB := xq 646 (by decide +kernel) rfl
theorem wq648 : Cond.instanceMethod yX5_readClause ∈ xTB := xq 648 (by decide +kernel) rfl
theorem wq650 : Cond.methodLink "ShadowCourt$LawReader" (62) yX5_readSum ∈ xTB := xq 650 (by decide +kernel) rfl
theorem wq652 : Cond.instanceMethod yX5_readSum ∈ xTB := xq 652 (by decide +kernel) rfl
theorem wq654 : Cond.methodLink "ShadowCourt$LawReader" (85) yX5_readTerm ∈ xTB := xq 654 (by decide +kernel) rfl
theorem wq656 : Cond.instanceMethod yX5_readTerm ∈ xTB := xq 656 (by decide +kernel) rfl
theorem wq658 : Cond.methodLink "ShadowCourt$LawReader" (88) yX5_readFactor ∈ xTB := xq 658 (by decide +kernel) rfl
theorem wq660 : Cond.instanceMethod yX5_readFactor ∈ xTB := xq 660 (by decide +kernel) rfl
theorem wq664 : Cond.instanceMethod yX8_isDigit ∈ xTB := xq 664 (by decide +kernel) rfl
theorem wq666 : Cond.methodLink "ShadowCourt$LawReader" (95) yX5_readNumber ∈ xTB := xq 666 (by decide +kernel) rfl
theorem wq668 : Cond.instanceMethod yX5_readNumber ∈ xTB := xq 668 (by decide +kernel) rfl
theorem wq672 : Cond.instanceMethod yX4_put ∈ xTB := xq 672 (by decide +kernel) rfl
theorem wq676 : Cond.static yX4_placeOfLetter ∈ xTB := xq 676 (by decide +kernel) rfl
theorem wq678 : Cond.methodLink "ShadowCourt$LawReader" (72) yX5_readParts ∈ xTB := xq 678 (by decide +kernel) rfl
theorem wq680 : Cond.instanceMethod yX5_readParts ∈ xTB := xq 680 (by decide +kernel) rfl
theorem wq682 : Cond.methodLink "ShadowCourt$LawReader" (75) yX5_readPieces ∈ xTB := xq 682 (by decide +kernel) rfl
theorem wq684 : Cond.instanceMethod yX5_readPieces ∈ xTB := xq 684 (by decide +kernel) rfl
theorem wq686 : Cond.methodLink "ShadowCourt$LawReader" (82) yX5_readPiece ∈ xTB := xq 686 (by decide +kernel) rfl
theorem wq688 : Cond.instanceMethod yX5_readPiece ∈ xTB := xq 688 (by decide +kernel) rfl
theorem wq692 : Cond.instanceMethod yX4_landSkip ∈ xTB := xq 692 (by decide +kernel) rfl
theorem wn201 : Cond.fieldLinkNest "ShadowCourt$LawReader" (35) "ShadowCourt$Tape" "at" "I" "ShadowCourt" ∈ xNL := xn 201 (by decide +kernel) rfl
theorem wn254 : Cond.fieldLinkNest "ShadowCourt$LawReader" (59) "ShadowCourt$Law" "used" "I" "ShadowCourt" ∈ xNL := xn 254 (by decide +kernel) rfl
theorem wn256 : Cond.fieldLinkNest "ShadowCourt$LawReader" (52) "ShadowCourt$Law" "kindOfClause" "[I" "ShadowCourt" ∈ xNL := xn 256 (by decide +kernel) rfl
theorem wn258 : Cond.fieldLinkNest "ShadowCourt$LawReader" (56) "ShadowCourt$Law" "worthAt" "[I" "ShadowCourt" ∈ xNL := xn 258 (by decide +kernel) rfl
theorem wn260 : Cond.fieldLinkNest "ShadowCourt$LawReader" (69) "ShadowCourt$Law" "askedAt" "[I" "ShadowCourt" ∈ xNL := xn 260 (by decide +kernel) rfl
theorem wn262 : Cond.fieldLinkNest "ShadowCourt$LawReader" (46) "ShadowCourt$Law" "clauses" "I" "ShadowCourt" ∈ xNL := xn 262 (by decide +kernel) rfl
theorem wn637 : Cond.methodLinkNest "ShadowCourt$LawReader" (22) yX4_empty "ShadowCourt" ∈ xNL := xn 637 (by decide +kernel) rfl
theorem wn641 : Cond.methodLinkNest "ShadowCourt$LawReader" (25) yX8_sign "ShadowCourt" ∈ xNL := xn 641 (by decide +kernel) rfl
theorem wn645 : Cond.methodLinkNest "ShadowCourt$LawReader" (39) yX8_fails "ShadowCourt" ∈ xNL := xn 645 (by decide +kernel) rfl
theorem wn662 : Cond.methodLinkNest "ShadowCourt$LawReader" (91) yX8_isDigit "ShadowCourt" ∈ xNL := xn 662 (by decide +kernel) rfl
theorem wn670 : Cond.methodLinkNest "ShadowCourt$LawReader" (65) yX4_put "ShadowCourt" ∈ xNL := xn 670 (by decide +kernel) rfl
theorem wn674 : Cond.methodLinkNest "ShadowCourt$LawReader" (49) yX8_passes "ShadowCourt" ∈ xNL := xn 674 (by decide +kernel) rfl
theorem wn675 : Cond.methodLinkNest "ShadowCourt$LawReader" (98) yX4_placeOfLetter "ShadowCourt" ∈ xNL := xn 675 (by decide +kernel) rfl
theorem wn690 : Cond.methodLinkNest "ShadowCourt$LawReader" (78) yX4_landSkip "ShadowCourt" ∈ xNL := xn 690 (by decide +kernel) rfl
theorem dX5_isKind_0 : decode cX5_isKind 0 = .ok (.iload_n 0, 1) := by decide +kernel
theorem dX5_isKind_1 : decode cX5_isKind 1 = .ok (.bipush 97, 2) := by decide +kernel
theorem dX5_isKind_3 : decode cX5_isKind 3 = .ok (.if_icmp .eq 33, 3) := by decide +kernel
theorem dX5_isKind_6 : decode cX5_isKind 6 = .ok (.iload_n 0, 1) := by decide +kernel
theorem dX5_isKind_7 : decode cX5_isKind 7 = .ok (.bipush 108, 2) := by decide +kernel
theorem dX5_isKind_9 : decode cX5_isKind 9 = .ok (.if_icmp .eq 27, 3) := by decide +kernel
theorem dX5_isKind_12 : decode cX5_isKind 12 = .ok (.iload_n 0, 1) := by decide +kernel
theorem dX5_isKind_13 : decode cX5_isKind 13 = .ok (.bipush 99, 2) := by decide +kernel
theorem dX5_isKind_15 : decode cX5_isKind 15 = .ok (.if_icmp .eq 21, 3) := by decide +kernel
theorem dX5_isKind_18 : decode cX5_isKind 18 = .ok (.iload_n 0, 1) := by decide +kernel
theorem dX5_isKind_19 : decode cX5_isKind 19 = .ok (.bipush 110, 2) := by decide +kernel
theorem dX5_isKind_21 : decode cX5_isKind 21 = .ok (.if_icmp .eq 15, 3) := by decide +kernel
theorem dX5_isKind_24 : decode cX5_isKind 24 = .ok (.iload_n 0, 1) := by decide +kernel
theorem dX5_isKind_25 : decode cX5_isKind 25 = .ok (.bipush 118, 2) := by decide +kernel
theorem dX5_isKind_27 : decode cX5_isKind 27 = .ok (.if_icmp .eq 9, 3) := by decide +kernel
theorem dX5_isKind_30 : decode cX5_isKind 30 = .ok (.iload_n 0, 1) := by decide +kernel
theorem dX5_isKind_31 : decode cX5_isKind 31 = .ok (.bipush 111, 2) := by decide +kernel
theorem dX5_isKind_33 : decode cX5_isKind 33 = .ok (.if_icmp .ne 7, 3) := by decide +kernel
theorem dX5_isKind_36 : decode cX5_isKind 36 = .ok (.iconst 1, 1) := by decide +kernel
theorem dX5_isKind_37 : decode cX5_isKind 37 = .ok (.goto 4, 3) := by decide +kernel
theorem dX5_isKind_40 : decode cX5_isKind 40 = .ok (.iconst 0, 1) := by decide +kernel
theorem dX5_isKind_41 : decode cX5_isKind 41 = .ok (.ireturn, 1) := by decide +kernel
theorem dX5_readClause_0 : decode cX5_readClause 0 = .ok (.iload_n 2, 1) := by decide +kernel
theorem dX5_readClause_1 : decode cX5_readClause 1 = .ok (.ifCond .lt 9, 3) := by decide +kernel
theorem dX5_readClause_4 : decode cX5_readClause 4 = .ok (.iload_n 2, 1) := by decide +kernel
theorem dX5_readClause_5 : decode cX5_readClause 5 = .ok (.bipush 16, 2) := by decide +kernel
theorem dX5_readClause_7 : decode cX5_readClause 7 = .ok (.if_icmp .lt 5, 3) := by decide +kernel
theorem dX5_readClause_10 : decode cX5_readClause 10 = .ok (.iconst 0, 1) := by decide +kernel
theorem dX5_readClause_11 : decode cX5_readClause 11 = .ok (.ireturn, 1) := by decide +kernel
theorem dX5_readClause_12 : decode cX5_readClause 12 = .ok (.aload_n 0, 1) := by decide +kernel
theorem dX5_readClause_13 : decode cX5_readClause 13 = .ok (.getfield 18, 3) := by decide +kernel
theorem dX5_readClause_16 : decode cX5_readClause 16 = .ok (.getfield 52, 3) := by decide +kernel
theorem dX5_readClause_19 : decode cX5_readClause 19 = .ok (.iload_n 2, 1) := by decide +kernel
theorem dX5_readClause_20 : decode cX5_readClause 20 = .ok (.iload_n 1, 1) := by decide +kernel
theorem dX5_readClause_21 : decode cX5_readClause 21 = .ok (.iastore, 1) := by decide +kernel
theorem dX5_readClause_22 : decode cX5_readClause 22 = .ok (.aload_n 0, 1) := by decide +kernel
theorem dX5_readClause_23 : decode cX5_readClause 23 = .ok (.getfield 18, 3) := by decide +kernel
theorem dX5_readClause_26 : decode cX5_readClause 26 = .ok (.getfield 56, 3) := by decide +kernel
theorem dX5_readClause_29 : decode cX5_readClause 29 = .ok (.iload_n 2, 1) := by decide +kernel
theorem dX5_readClause_30 : decode cX5_readClause 30 = .ok (.aload_n 0, 1) := by decide +kernel
theorem dX5_readClause_31 : decode cX5_readClause 31 = .ok (.getfield 18, 3) := by decide +kernel
theorem dX5_readClause_34 : decode cX5_readClause 34 = .ok (.getfield 59, 3) := by decide +kernel
theorem dX5_readClause_37 : decode cX5_readClause 37 = .ok (.iastore, 1) := by decide +kernel
theorem dX5_readClause_38 : decode cX5_readClause 38 = .ok (.iload_n 1, 1) := by decide +kernel
theorem dX5_readClause_39 : decode cX5_readClause 39 = .ok (.bipush 110, 2) := by decide +kernel
theorem dX5_readClause_41 : decode cX5_readClause 41 = .ok (.if_icmp .eq 13, 3) := by decide +kernel
theorem dX5_readClause_44 : decode cX5_readClause 44 = .ok (.aload_n 0, 1) := by decide +kernel
theorem dX5_readClause_45 : decode cX5_readClause 45 = .ok (.iconst 0, 1) := by decide +kernel
theorem dX5_readClause_46 : decode cX5_readClause 46 = .ok (.invokevirtual 62, 3) := by decide +kernel
theorem dX5_readClause_49 : decode cX5_readClause 49 = .ok (.ifCond .ne 5, 3) := by decide +kernel
theorem dX5_readClause_52 : decode cX5_readClause 52 = .ok (.iconst 0, 1) := by decide +kernel
theorem dX5_readClause_53 : decode cX5_readClause 53 = .ok (.ireturn, 1) := by decide +kernel
theorem dX5_readClause_54 : decode cX5_readClause 54 = .ok (.aload_n 0, 1) := by decide +kernel
theorem dX5_readClause_55 : decode cX5_readClause 55 = .ok (.getfield 18, 3) := by decide +kernel
theorem dX5_readClause_58 : decode cX5_readClause 58 = .ok (.iconst 0, 1) := by decide +kernel
theorem dX5_readClause_59 : decode cX5_readClause 59 = .ok (.iconst 0, 1) := by decide +kernel
theorem dX5_readClause_60 : decode cX5_readClause 60 = .ok (.invokevirtual 65, 3) := by decide +kernel
theorem dX5_readClause_63 : decode cX5_readClause 63 = .ok (.pop, 1) := by decide +kernel
theorem dX5_readClause_64 : decode cX5_readClause 64 = .ok (.aload_n 0, 1) := by decide +kernel
theorem dX5_readClause_65 : decode cX5_readClause 65 = .ok (.getfield 18, 3) := by decide +kernel
theorem dX5_readClause_68 : decode cX5_readClause 68 = .ok (.getfield 69, 3) := by decide +kernel
theorem dX5_readClause_71 : decode cX5_readClause 71 = .ok (.iload_n 2, 1) := by decide +kernel
theorem dX5_readClause_72 : decode cX5_readClause 72 = .ok (.aload_n 0, 1) := by decide +kernel
theorem dX5_readClause_73 : decode cX5_readClause 73 = .ok (.getfield 18, 3) := by decide +kernel
theorem dX5_readClause_76 : decode cX5_readClause 76 = .ok (.getfield 59, 3) := by decide +kernel
theorem dX5_readClause_79 : decode cX5_readClause 79 = .ok (.iastore, 1) := by decide +kernel
theorem dX5_readClause_80 : decode cX5_readClause 80 = .ok (.aload_n 0, 1) := by decide +kernel
theorem dX5_readClause_81 : decode cX5_readClause 81 = .ok (.getfield 9, 3) := by decide +kernel
theorem dX5_readClause_84 : decode cX5_readClause 84 = .ok (.bipush 40, 2) := by decide +kernel
theorem dX5_readClause_86 : decode cX5_readClause 86 = .ok (.invokevirtual 49, 3) := by decide +kernel
theorem dX5_readClause_89 : decode cX5_readClause 89 = .ok (.ifCond .eq 23, 3) := by decide +kernel
theorem dX5_readClause_92 : decode cX5_readClause 92 = .ok (.aload_n 0, 1) := by decide +kernel
theorem dX5_readClause_93 : decode cX5_readClause 93 = .ok (.iconst 1, 1) := by decide +kernel
theorem dX5_readClause_94 : decode cX5_readClause 94 = .ok (.invokevirtual 72, 3) := by decide +kernel
theorem dX5_readClause_97 : decode cX5_readClause 97 = .ok (.ifCond .eq 15, 3) := by decide +kernel
theorem dX5_readClause_100 : decode cX5_readClause 100 = .ok (.aload_n 0, 1) := by decide +kernel
theorem dX5_readClause_101 : decode cX5_readClause 101 = .ok (.getfield 9, 3) := by decide +kernel
theorem dX5_readClause_104 : decode cX5_readClause 104 = .ok (.bipush 41, 2) := by decide +kernel
theorem dX5_readClause_106 : decode cX5_readClause 106 = .ok (.invokevirtual 49, 3) := by decide +kernel
theorem dX5_readClause_109 : decode cX5_readClause 109 = .ok (.ifCond .ne 5, 3) := by decide +kernel
theorem dX5_readClause_112 : decode cX5_readClause 112 = .ok (.iconst 0, 1) := by decide +kernel
theorem dX5_readClause_113 : decode cX5_readClause 113 = .ok (.ireturn, 1) := by decide +kernel
theorem dX5_readClause_114 : decode cX5_readClause 114 = .ok (.aload_n 0, 1) := by decide +kernel
theorem dX5_readClause_115 : decode cX5_readClause 115 = .ok (.getfield 18, 3) := by decide +kernel
theorem dX5_readClause_118 : decode cX5_readClause 118 = .ok (.iconst 0, 1) := by decide +kernel
theorem dX5_readClause_119 : decode cX5_readClause 119 = .ok (.iconst 0, 1) := by decide +kernel
theorem dX5_readClause_120 : decode cX5_readClause 120 = .ok (.invokevirtual 65, 3) := by decide +kernel
theorem dX5_readClause_123 : decode cX5_readClause 123 = .ok (.pop, 1) := by decide +kernel
theorem dX5_readClause_124 : decode cX5_readClause 124 = .ok (.iconst 1, 1) := by decide +kernel
theorem dX5_readClause_125 : decode cX5_readClause 125 = .ok (.ireturn, 1) := by decide +kernel
theorem dX5_readFactor_0 : decode cX5_readFactor 0 = .ok (.aload_n 0, 1) := by decide +kernel
theorem dX5_readFactor_1 : decode cX5_readFactor 1 = .ok (.getfield 9, 3) := by decide +kernel
theorem dX5_readFactor_4 : decode cX5_readFactor 4 = .ok (.invokevirtual 91, 3) := by decide +kernel
theorem dX5_readFactor_7 : decode cX5_readFactor 7 = .ok (.ifCond .eq 8, 3) := by decide +kernel
theorem dX5_readFactor_10 : decode cX5_readFactor 10 = .ok (.aload_n 0, 1) := by decide +kernel
theorem dX5_readFactor_11 : decode cX5_readFactor 11 = .ok (.invokevirtual 95, 3) := by decide +kernel
theorem dX5_readFactor_14 : decode cX5_readFactor 14 = .ok (.ireturn, 1) := by decide +kernel
theorem dX5_readFactor_15 : decode cX5_readFactor 15 = .ok (.aload_n 0, 1) := by decide +kernel
theorem dX5_readFactor_16 : decode cX5_readFactor 16 = .ok (.getfield 9, 3) := by decide +kernel
theorem dX5_readFactor_19 : decode cX5_readFactor 19 = .ok (.invokevirtual 25, 3) := by decide +kernel
theorem dX5_readFactor_22 : decode cX5_readFactor 22 = .ok (.istore_n 2, 1) := by decide +kernel
theorem dX5_readFactor_23 : decode cX5_readFactor 23 = .ok (.iload_n 2, 1) := by decide +kernel
theorem dX5_readFactor_24 : decode cX5_readFactor 24 = .ok (.bipush 91, 2) := by decide +kernel
theorem dX5_readFactor_26 : decode cX5_readFactor 26 = .ok (.if_icmp .ne 66, 3) := by decide +kernel
theorem dX5_readFactor_29 : decode cX5_readFactor 29 = .ok (.iload_n 1, 1) := by decide +kernel
theorem dX5_readFactor_30 : decode cX5_readFactor 30 = .ok (.bipush 6, 2) := by decide +kernel
theorem dX5_readFactor_32 : decode cX5_readFactor 32 = .ok (.if_icmp .lt 19, 3) := by decide +kernel
theorem dX5_readFactor_35 : decode cX5_readFactor 35 = .ok (.aload_n 0, 1) := by decide +kernel
theorem dX5_readFactor_36 : decode cX5_readFactor 36 = .ok (.getfield 9, 3) := by decide +kernel
theorem dX5_readFactor_39 : decode cX5_readFactor 39 = .ok (.iconst 5, 1) := by decide +kernel
theorem dX5_readFactor_40 : decode cX5_readFactor 40 = .ok (.aload_n 0, 1) := by decide +kernel
theorem dX5_readFactor_41 : decode cX5_readFactor 41 = .ok (.getfield 9, 3) := by decide +kernel
theorem dX5_readFactor_44 : decode cX5_readFactor 44 = .ok (.getfield 35, 3) := by decide +kernel
theorem dX5_readFactor_47 : decode cX5_readFactor 47 = .ok (.invokevirtual 39, 3) := by decide +kernel
theorem dX5_readFactor_50 : decode cX5_readFactor 50 = .ok (.ireturn, 1) := by decide +kernel
theorem dX5_readFactor_51 : decode cX5_readFactor 51 = .ok (.aload_n 0, 1) := by decide +kernel
theorem dX5_readFactor_52 : decode cX5_readFactor 52 = .ok (.getfield 9, 3) := by decide +kernel
theorem dX5_readFactor_55 : decode cX5_readFactor 55 = .ok (.dup, 1) := by decide +kernel
theorem dX5_readFactor_56 : decode cX5_readFactor 56 = .ok (.getfield 35, 3) := by decide +kernel
theorem dX5_readFactor_59 : decode cX5_readFactor 59 = .ok (.iconst 1, 1) := by decide +kernel
theorem dX5_readFactor_60 : decode cX5_readFactor 60 = .ok (.iadd, 1) := by decide +kernel
theorem dX5_readFactor_61 : decode cX5_readFactor 61 = .ok (.putfield 35, 3) := by decide +kernel
theorem dX5_readFactor_64 : decode cX5_readFactor 64 = .ok (.aload_n 0, 1) := by decide +kernel
theorem dX5_readFactor_65 : decode cX5_readFactor 65 = .ok (.iload_n 1, 1) := by decide +kernel
theorem dX5_readFactor_66 : decode cX5_readFactor 66 = .ok (.iconst 1, 1) := by decide +kernel
theorem dX5_readFactor_67 : decode cX5_readFactor 67 = .ok (.iadd, 1) := by decide +kernel
theorem dX5_readFactor_68 : decode cX5_readFactor 68 = .ok (.invokevirtual 62, 3) := by decide +kernel
theorem dX5_readFactor_71 : decode cX5_readFactor 71 = .ok (.ifCond .eq 19, 3) := by decide +kernel
theorem dX5_readFactor_74 : decode cX5_readFactor 74 = .ok (.aload_n 0, 1) := by decide +kernel
theorem dX5_readFactor_75 : decode cX5_readFactor 75 = .ok (.getfield 9, 3) := by decide +kernel
theorem dX5_readFactor_78 : decode cX5_readFactor 78 = .ok (.bipush 93, 2) := by decide +kernel
theorem dX5_readFactor_80 : decode cX5_readFactor 80 = .ok (.invokevirtual 49, 3) := by decide +kernel
theorem dX5_readFactor_83 : decode cX5_readFactor 83 = .ok (.ifCond .eq 7, 3) := by decide +kernel
theorem dX5_readFactor_86 : decode cX5_readFactor 86 = .ok (.iconst 1, 1) := by decide +kernel
theorem dX5_readFactor_87 : decode cX5_readFactor 87 = .ok (.goto 4, 3) := by decide +kernel
theorem dX5_readFactor_90 : decode cX5_readFactor 90 = .ok (.iconst 0, 1) := by decide +kernel
theorem dX5_readFactor_91 : decode cX5_readFactor 91 = .ok (.ireturn, 1) := by decide +kernel
theorem dX5_readFactor_92 : decode cX5_readFactor 92 = .ok (.iload_n 2, 1) := by decide +kernel
theorem dX5_readFactor_93 : decode cX5_readFactor 93 = .ok (.invokestatic 98, 3) := by decide +kernel
theorem dX5_readFactor_96 : decode cX5_readFactor 96 = .ok (.istore_n 3, 1) := by decide +kernel
theorem dX5_readFactor_97 : decode cX5_readFactor 97 = .ok (.iload_n 3, 1) := by decide +kernel
theorem dX5_readFactor_98 : decode cX5_readFactor 98 = .ok (.iconst (-1), 1) := by decide +kernel
theorem dX5_readFactor_99 : decode cX5_readFactor 99 = .ok (.if_icmp .ne 19, 3) := by decide +kernel
theorem dX5_readFactor_102 : decode cX5_readFactor 102 = .ok (.aload_n 0, 1) := by decide +kernel
theorem dX5_readFactor_103 : decode cX5_readFactor 103 = .ok (.getfield 9, 3) := by decide +kernel
theorem dX5_readFactor_106 : decode cX5_readFactor 106 = .ok (.iconst 1, 1) := by decide +kernel
theorem dX5_readFactor_107 : decode cX5_readFactor 107 = .ok (.aload_n 0, 1) := by decide +kernel
theorem dX5_readFactor_108 : decode cX5_readFactor 108 = .ok (.getfield 9, 3) := by decide +kernel
theorem dX5_readFactor_111 : decode cX5_readFactor 111 = .ok (.getfield 35, 3) := by decide +kernel
theorem dX5_readFactor_114 : decode cX5_readFactor 114 = .ok (.invokevirtual 39, 3) := by decide +kernel
theorem dX5_readFactor_117 : decode cX5_readFactor 117 = .ok (.ireturn, 1) := by decide +kernel
theorem dX5_readFactor_118 : decode cX5_readFactor 118 = .ok (.aload_n 0, 1) := by decide +kernel
theorem dX5_readFactor_119 : decode cX5_readFactor 119 = .ok (.getfield 9, 3) := by decide +kernel
theorem dX5_readFactor_122 : decode cX5_readFactor 122 = .ok (.dup, 1) := by decide +kernel
theorem dX5_readFactor_123 : decode cX5_readFactor 123 = .ok (.getfield 35, 3) := by decide +kernel
theorem dX5_readFactor_126 : decode cX5_readFactor 126 = .ok (.iconst 1, 1) := by decide +kernel
theorem dX5_readFactor_127 : decode cX5_readFactor 127 = .ok (.iadd, 1) := by decide +kernel
theorem dX5_readFactor_128 : decode cX5_readFactor 128 = .ok (.putfield 35, 3) := by decide +kernel
theorem dX5_readFactor_131 : decode cX5_readFactor 131 = .ok (.aload_n 0, 1) := by decide +kernel
theorem dX5_readFactor_132 : decode cX5_readFactor 132 = .ok (.getfield 18, 3) := by decide +kernel
theorem dX5_readFactor_135 : decode cX5_readFactor 135 = .ok (.iconst 2, 1) := by decide +kernel
theorem dX5_readFactor_136 : decode cX5_readFactor 136 = .ok (.iload_n 3, 1) := by decide +kernel
theorem dX5_readFactor_137 : decode cX5_readFactor 137 = .ok (.invokevirtual 65, 3) := by decide +kernel
theorem dX5_readFactor_140 : decode cX5_readFactor 140 = .ok (.pop, 1) := by decide +kernel
theorem dX5_readFactor_141 : decode cX5_readFactor 141 = .ok (.iconst 1, 1) := by decide +kernel
theorem dX5_readFactor_142 : decode cX5_readFactor 142 = .ok (.ireturn, 1) := by decide +kernel
theorem dX5_readNumber_0 : decode cX5_readNumber 0 = .ok (.iconst 0, 1) := by decide +kernel
theorem dX5_readNumber_1 : decode cX5_readNumber 1 = .ok (.istore_n 1, 1) := by decide +kernel
theorem dX5_readNumber_2 : decode cX5_readNumber 2 = .ok (.iconst 0, 1) := by decide +kernel
theorem dX5_readNumber_3 : decode cX5_readNumber 3 = .ok (.istore_n 2, 1) := by decide +kernel
theorem dX5_readNumber_4 : decode cX5_readNumber 4 = .ok (.iload_n 2, 1) := by decide +kernel
theorem dX5_readNumber_5 : decode cX5_readNumber 5 = .ok (.iconst 5, 1) := by decide +kernel
theorem dX5_readNumber_6 : decode cX5_readNumber 6 = .ok (.if_icmp .ge 48, 3) := by decide +kernel
theorem dX5_readNumber_9 : decode cX5_readNumber 9 = .ok (.aload_n 0, 1) := by decide +kernel
theorem dX5_readNumber_10 : decode cX5_readNumber 10 = .ok (.getfield 9, 3) := by decide +kernel
theorem dX5_readNumber_13 : decode cX5_readNumber 13 = .ok (.invokevirtual 91, 3) := by decide +kernel
theorem dX5_readNumber_16 : decode cX5_readNumber 16 = .ok (.ifCond .eq 38, 3) := by decide +kernel
theorem dX5_readNumber_19 : decode cX5_readNumber 19 = .ok (.bipush 10, 2) := by decide +kernel
theorem dX5_readNumber_21 : decode cX5_readNumber 21 = .ok (.iload_n 1, 1) := by decide +kernel
theorem dX5_readNumber_22 : decode cX5_readNumber 22 = .ok (.imul, 1) := by decide +kernel
theorem dX5_readNumber_23 : decode cX5_readNumber 23 = .ok (.aload_n 0, 1) := by decide +kernel
theorem dX5_readNumber_24 : decode cX5_readNumber 24 = .ok (.getfield 9, 3) := by decide +kernel
theorem dX5_readNumber_27 : decode cX5_readNumber 27 = .ok (.invokevirtual 25, 3) := by decide +kernel
theorem dX5_readNumber_30 : decode cX5_readNumber 30 = .ok (.iadd, 1) := by decide +kernel
theorem dX5_readNumber_31 : decode cX5_readNumber 31 = .ok (.bipush 48, 2) := by decide +kernel
theorem dX5_readNumber_33 : decode cX5_readNumber 33 = .ok (.isub, 1) := by decide +kernel
theorem dX5_readNumber_34 : decode cX5_readNumber 34 = .ok (.istore_n 1, 1) := by decide +kernel
theorem dX5_readNumber_35 : decode cX5_readNumber 35 = .ok (.aload_n 0, 1) := by decide +kernel
theorem dX5_readNumber_36 : decode cX5_readNumber 36 = .ok (.getfield 9, 3) := by decide +kernel
theorem dX5_readNumber_39 : decode cX5_readNumber 39 = .ok (.dup, 1) := by decide +kernel
theorem dX5_readNumber_40 : decode cX5_readNumber 40 = .ok (.getfield 35, 3) := by decide +kernel
theorem dX5_readNumber_43 : decode cX5_readNumber 43 = .ok (.iconst 1, 1) := by decide +kernel
theorem dX5_readNumber_44 : decode cX5_readNumber 44 = .ok (.iadd, 1) := by decide +kernel
theorem dX5_readNumber_45 : decode cX5_readNumber 45 = .ok (.putfield 35, 3) := by decide +kernel
theorem dX5_readNumber_48 : decode cX5_readNumber 48 = .ok (.iinc 2 1, 3) := by decide +kernel
theorem dX5_readNumber_51 : decode cX5_readNumber 51 = .ok (.goto (-47), 3) := by decide +kernel
theorem dX5_readNumber_54 : decode cX5_readNumber 54 = .ok (.aload_n 0, 1) := by decide +kernel
theorem dX5_readNumber_55 : decode cX5_readNumber 55 = .ok (.getfield 9, 3) := by decide +kernel
theorem dX5_readNumber_58 : decode cX5_readNumber 58 = .ok (.invokevirtual 91, 3) := by decide +kernel
theorem dX5_readNumber_61 : decode cX5_readNumber 61 = .ok (.ifCond .eq 19, 3) := by decide +kernel
theorem dX5_readNumber_64 : decode cX5_readNumber 64 = .ok (.aload_n 0, 1) := by decide +kernel
theorem dX5_readNumber_65 : decode cX5_readNumber 65 = .ok (.getfield 9, 3) := by decide +kernel
theorem dX5_readNumber_68 : decode cX5_readNumber 68 = .ok (.iconst 2, 1) := by decide +kernel
theorem dX5_readNumber_69 : decode cX5_readNumber 69 = .ok (.aload_n 0, 1) := by decide +kernel
theorem dX5_readNumber_70 : decode cX5_readNumber 70 = .ok (.getfield 9, 3) := by decide +kernel
theorem dX5_readNumber_73 : decode cX5_readNumber 73 = .ok (.getfield 35, 3) := by decide +kernel
theorem dX5_readNumber_76 : decode cX5_readNumber 76 = .ok (.invokevirtual 39, 3) := by decide +kernel
theorem dX5_readNumber_79 : decode cX5_readNumber 79 = .ok (.ireturn, 1) := by decide +kernel
theorem dX5_readNumber_80 : decode cX5_readNumber 80 = .ok (.aload_n 0, 1) := by decide +kernel
theorem dX5_readNumber_81 : decode cX5_readNumber 81 = .ok (.getfield 18, 3) := by decide +kernel
theorem dX5_readNumber_84 : decode cX5_readNumber 84 = .ok (.iconst 1, 1) := by decide +kernel
theorem dX5_readNumber_85 : decode cX5_readNumber 85 = .ok (.iload_n 1, 1) := by decide +kernel
theorem dX5_readNumber_86 : decode cX5_readNumber 86 = .ok (.invokevirtual 65, 3) := by decide +kernel
theorem dX5_readNumber_89 : decode cX5_readNumber 89 = .ok (.pop, 1) := by decide +kernel
theorem dX5_readNumber_90 : decode cX5_readNumber 90 = .ok (.iconst 1, 1) := by decide +kernel
theorem dX5_readNumber_91 : decode cX5_readNumber 91 = .ok (.ireturn, 1) := by decide +kernel
theorem dX5_readParts_0 : decode cX5_readParts 0 = .ok (.aload_n 0, 1) := by decide +kernel
theorem dX5_readParts_1 : decode cX5_readParts 1 = .ok (.iload_n 1, 1) := by decide +kernel
theorem dX5_readParts_2 : decode cX5_readParts 2 = .ok (.invokevirtual 75, 3) := by decide +kernel
theorem dX5_readParts_5 : decode cX5_readParts 5 = .ok (.ifCond .ne 5, 3) := by decide +kernel
theorem dX5_readParts_8 : decode cX5_readParts 8 = .ok (.iconst 0, 1) := by decide +kernel
theorem dX5_readParts_9 : decode cX5_readParts 9 = .ok (.ireturn, 1) := by decide +kernel
theorem dX5_readParts_10 : decode cX5_readParts 10 = .ok (.iconst 0, 1) := by decide +kernel
theorem dX5_readParts_11 : decode cX5_readParts 11 = .ok (.istore_n 2, 1) := by decide +kernel
theorem dX5_readParts_12 : decode cX5_readParts 12 = .ok (.iload_n 2, 1) := by decide +kernel
theorem dX5_readParts_13 : decode cX5_readParts 13 = .ok (.sipush 300, 3) := by decide +kernel
theorem dX5_readParts_16 : decode cX5_readParts 16 = .ok (.if_icmp .ge 62, 3) := by decide +kernel
theorem dX5_readParts_19 : decode cX5_readParts 19 = .ok (.aload_n 0, 1) := by decide +kernel
theorem dX5_readParts_20 : decode cX5_readParts 20 = .ok (.getfield 9, 3) := by decide +kernel
theorem dX5_readParts_23 : decode cX5_readParts 23 = .ok (.invokevirtual 25, 3) := by decide +kernel
theorem dX5_readParts_26 : decode cX5_readParts 26 = .ok (.bipush 124, 2) := by decide +kernel
theorem dX5_readParts_28 : decode cX5_readParts 28 = .ok (.if_icmp .ne 50, 3) := by decide +kernel
theorem dX5_readParts_31 : decode cX5_readParts 31 = .ok (.aload_n 0, 1) := by decide +kernel
theorem dX5_readParts_32 : decode cX5_readParts 32 = .ok (.getfield 9, 3) := by decide +kernel
theorem dX5_readParts_35 : decode cX5_readParts 35 = .ok (.dup, 1) := by decide +kernel
theorem dX5_readParts_36 : decode cX5_readParts 36 = .ok (.getfield 35, 3) := by decide +kernel
theorem dX5_readParts_39 : decode cX5_readParts 39 = .ok (.iconst 1, 1) := by decide +kernel
theorem dX5_readParts_40 : decode cX5_readParts 40 = .ok (.iadd, 1) := by decide +kernel
theorem dX5_readParts_41 : decode cX5_readParts 41 = .ok (.putfield 35, 3) := by decide +kernel
theorem dX5_readParts_44 : decode cX5_readParts 44 = .ok (.aload_n 0, 1) := by decide +kernel
theorem dX5_readParts_45 : decode cX5_readParts 45 = .ok (.getfield 18, 3) := by decide +kernel
theorem dX5_readParts_48 : decode cX5_readParts 48 = .ok (.iconst 5, 1) := by decide +kernel
theorem dX5_readParts_49 : decode cX5_readParts 49 = .ok (.iconst 0, 1) := by decide +kernel
theorem dX5_readParts_50 : decode cX5_readParts 50 = .ok (.invokevirtual 65, 3) := by decide +kernel
theorem dX5_readParts_53 : decode cX5_readParts 53 = .ok (.istore_n 3, 1) := by decide +kernel
theorem dX5_readParts_54 : decode cX5_readParts 54 = .ok (.aload_n 0, 1) := by decide +kernel
theorem dX5_readParts_55 : decode cX5_readParts 55 = .ok (.iload_n 1, 1) := by decide +kernel
theorem dX5_readParts_56 : decode cX5_readParts 56 = .ok (.invokevirtual 75, 3) := by decide +kernel
theorem dX5_readParts_59 : decode cX5_readParts 59 = .ok (.ifCond .ne 5, 3) := by decide +kernel
theorem dX5_readParts_62 : decode cX5_readParts 62 = .ok (.iconst 0, 1) := by decide +kernel
theorem dX5_readParts_63 : decode cX5_readParts 63 = .ok (.ireturn, 1) := by decide +kernel
theorem dX5_readParts_64 : decode cX5_readParts 64 = .ok (.aload_n 0, 1) := by decide +kernel
theorem dX5_readParts_65 : decode cX5_readParts 65 = .ok (.getfield 18, 3) := by decide +kernel
theorem dX5_readParts_68 : decode cX5_readParts 68 = .ok (.iload_n 3, 1) := by decide +kernel
theorem dX5_readParts_69 : decode cX5_readParts 69 = .ok (.invokevirtual 78, 3) := by decide +kernel
theorem dX5_readParts_72 : decode cX5_readParts 72 = .ok (.iinc 2 1, 3) := by decide +kernel
theorem dX5_readParts_75 : decode cX5_readParts 75 = .ok (.goto (-63), 3) := by decide +kernel
theorem dX5_readParts_78 : decode cX5_readParts 78 = .ok (.iconst 1, 1) := by decide +kernel
theorem dX5_readParts_79 : decode cX5_readParts 79 = .ok (.ireturn, 1) := by decide +kernel
theorem dX5_readPiece_0 : decode cX5_readPiece 0 = .ok (.aload_n 0, 1) := by decide +kernel
theorem dX5_readPiece_1 : decode cX5_readPiece 1 = .ok (.getfield 9, 3) := by decide +kernel
theorem dX5_readPiece_4 : decode cX5_readPiece 4 = .ok (.invokevirtual 25, 3) := by decide +kernel
theorem dX5_readPiece_7 : decode cX5_readPiece 7 = .ok (.istore_n 2, 1) := by decide +kernel
theorem dX5_readPiece_8 : decode cX5_readPiece 8 = .ok (.iload_n 2, 1) := by decide +kernel
theorem dX5_readPiece_9 : decode cX5_readPiece 9 = .ok (.bipush 33, 2) := by decide +kernel
theorem dX5_readPiece_11 : decode cX5_readPiece 11 = .ok (.if_icmp .eq 9, 3) := by decide +kernel
theorem dX5_readPiece_14 : decode cX5_readPiece 14 = .ok (.iload_n 2, 1) := by decide +kernel
theorem dX5_readPiece_15 : decode cX5_readPiece 15 = .ok (.bipush 40, 2) := by decide +kernel
theorem dX5_readPiece_17 : decode cX5_readPiece 17 = .ok (.if_icmp .ne 92, 3) := by decide +kernel
theorem dX5_readPiece_20 : decode cX5_readPiece 20 = .ok (.iload_n 1, 1) := by decide +kernel
theorem dX5_readPiece_21 : decode cX5_readPiece 21 = .ok (.bipush 6, 2) := by decide +kernel
theorem dX5_readPiece_23 : decode cX5_readPiece 23 = .ok (.if_icmp .lt 19, 3) := by decide +kernel
theorem dX5_readPiece_26 : decode cX5_readPiece 26 = .ok (.aload_n 0, 1) := by decide +kernel
theorem dX5_readPiece_27 : decode cX5_readPiece 27 = .ok (.getfield 9, 3) := by decide +kernel
theorem dX5_readPiece_30 : decode cX5_readPiece 30 = .ok (.iconst 5, 1) := by decide +kernel
theorem dX5_readPiece_31 : decode cX5_readPiece 31 = .ok (.aload_n 0, 1) := by decide +kernel
theorem dX5_readPiece_32 : decode cX5_readPiece 32 = .ok (.getfield 9, 3) := by decide +kernel
theorem dX5_readPiece_35 : decode cX5_readPiece 35 = .ok (.getfield 35, 3) := by decide +kernel
theorem dX5_readPiece_38 : decode cX5_readPiece 38 = .ok (.invokevirtual 39, 3) := by decide +kernel
theorem dX5_readPiece_41 : decode cX5_readPiece 41 = .ok (.ireturn, 1) := by decide +kernel
theorem dX5_readPiece_42 : decode cX5_readPiece 42 = .ok (.aload_n 0, 1) := by decide +kernel
theorem dX5_readPiece_43 : decode cX5_readPiece 43 = .ok (.getfield 9, 3) := by decide +kernel
theorem dX5_readPiece_46 : decode cX5_readPiece 46 = .ok (.dup, 1) := by decide +kernel
theorem dX5_readPiece_47 : decode cX5_readPiece 47 = .ok (.getfield 35, 3) := by decide +kernel
theorem dX5_readPiece_50 : decode cX5_readPiece 50 = .ok (.iconst 1, 1) := by decide +kernel
theorem dX5_readPiece_51 : decode cX5_readPiece 51 = .ok (.iadd, 1) := by decide +kernel
theorem dX5_readPiece_52 : decode cX5_readPiece 52 = .ok (.putfield 35, 3) := by decide +kernel
theorem dX5_readPiece_55 : decode cX5_readPiece 55 = .ok (.iload_n 2, 1) := by decide +kernel
theorem dX5_readPiece_56 : decode cX5_readPiece 56 = .ok (.bipush 40, 2) := by decide +kernel
theorem dX5_readPiece_58 : decode cX5_readPiece 58 = .ok (.if_icmp .ne 31, 3) := by decide +kernel
theorem dX5_readPiece_61 : decode cX5_readPiece 61 = .ok (.aload_n 0, 1) := by decide +kernel
theorem dX5_readPiece_62 : decode cX5_readPiece 62 = .ok (.iload_n 1, 1) := by decide +kernel
theorem dX5_readPiece_63 : decode cX5_readPiece 63 = .ok (.iconst 1, 1) := by decide +kernel
theorem dX5_readPiece_64 : decode cX5_readPiece 64 = .ok (.iadd, 1) := by decide +kernel
theorem dX5_readPiece_65 : decode cX5_readPiece 65 = .ok (.invokevirtual 72, 3) := by decide +kernel
theorem dX5_readPiece_68 : decode cX5_readPiece 68 = .ok (.ifCond .eq 19, 3) := by decide +kernel
theorem dX5_readPiece_71 : decode cX5_readPiece 71 = .ok (.aload_n 0, 1) := by decide +kernel
theorem dX5_readPiece_72 : decode cX5_readPiece 72 = .ok (.getfield 9, 3) := by decide +kernel
theorem dX5_readPiece_75 : decode cX5_readPiece 75 = .ok (.bipush 41, 2) := by decide +kernel
theorem dX5_readPiece_77 : decode cX5_readPiece 77 = .ok (.invokevirtual 49, 3) := by decide +kernel
theorem dX5_readPiece_80 : decode cX5_readPiece 80 = .ok (.ifCond .eq 7, 3) := by decide +kernel
theorem dX5_readPiece_83 : decode cX5_readPiece 83 = .ok (.iconst 1, 1) := by decide +kernel
theorem dX5_readPiece_84 : decode cX5_readPiece 84 = .ok (.goto 4, 3) := by decide +kernel
theorem dX5_readPiece_87 : decode cX5_readPiece 87 = .ok (.iconst 0, 1) := by decide +kernel
theorem dX5_readPiece_88 : decode cX5_readPiece 88 = .ok (.ireturn, 1) := by decide +kernel
theorem dX5_readPiece_89 : decode cX5_readPiece 89 = .ok (.aload_n 0, 1) := by decide +kernel
theorem dX5_readPiece_90 : decode cX5_readPiece 90 = .ok (.iload_n 1, 1) := by decide +kernel
theorem dX5_readPiece_91 : decode cX5_readPiece 91 = .ok (.iconst 1, 1) := by decide +kernel
theorem dX5_readPiece_92 : decode cX5_readPiece 92 = .ok (.iadd, 1) := by decide +kernel
theorem dX5_readPiece_93 : decode cX5_readPiece 93 = .ok (.invokevirtual 82, 3) := by decide +kernel
theorem dX5_readPiece_96 : decode cX5_readPiece 96 = .ok (.istore_n 3, 1) := by decide +kernel
theorem dX5_readPiece_97 : decode cX5_readPiece 97 = .ok (.aload_n 0, 1) := by decide +kernel
theorem dX5_readPiece_98 : decode cX5_readPiece 98 = .ok (.getfield 18, 3) := by decide +kernel
theorem dX5_readPiece_101 : decode cX5_readPiece 101 = .ok (.iconst 3, 1) := by decide +kernel
theorem dX5_readPiece_102 : decode cX5_readPiece 102 = .ok (.iconst 0, 1) := by decide +kernel
theorem dX5_readPiece_103 : decode cX5_readPiece 103 = .ok (.invokevirtual 65, 3) := by decide +kernel
theorem dX5_readPiece_106 : decode cX5_readPiece 106 = .ok (.pop, 1) := by decide +kernel
theorem dX5_readPiece_107 : decode cX5_readPiece 107 = .ok (.iload_n 3, 1) := by decide +kernel
theorem dX5_readPiece_108 : decode cX5_readPiece 108 = .ok (.ireturn, 1) := by decide +kernel
theorem dX5_readPiece_109 : decode cX5_readPiece 109 = .ok (.aload_n 0, 1) := by decide +kernel
theorem dX5_readPiece_110 : decode cX5_readPiece 110 = .ok (.iload_n 1, 1) := by decide +kernel
theorem dX5_readPiece_111 : decode cX5_readPiece 111 = .ok (.invokevirtual 62, 3) := by decide +kernel
theorem dX5_readPiece_114 : decode cX5_readPiece 114 = .ok (.ifCond .ne 5, 3) := by decide +kernel
theorem dX5_readPiece_117 : decode cX5_readPiece 117 = .ok (.iconst 0, 1) := by decide +kernel
theorem dX5_readPiece_118 : decode cX5_readPiece 118 = .ok (.ireturn, 1) := by decide +kernel
theorem dX5_readPiece_119 : decode cX5_readPiece 119 = .ok (.aload_n 0, 1) := by decide +kernel
theorem dX5_readPiece_120 : decode cX5_readPiece 120 = .ok (.getfield 9, 3) := by decide +kernel
theorem dX5_readPiece_123 : decode cX5_readPiece 123 = .ok (.invokevirtual 25, 3) := by decide +kernel
theorem dX5_readPiece_126 : decode cX5_readPiece 126 = .ok (.istore_n 3, 1) := by decide +kernel
theorem dX5_readPiece_127 : decode cX5_readPiece 127 = .ok (.iload_n 3, 1) := by decide +kernel
theorem dX5_readPiece_128 : decode cX5_readPiece 128 = .ok (.bipush 60, 2) := by decide +kernel
theorem dX5_readPiece_130 : decode cX5_readPiece 130 = .ok (.if_icmp .eq 31, 3) := by decide +kernel
theorem dX5_readPiece_133 : decode cX5_readPiece 133 = .ok (.iload_n 3, 1) := by decide +kernel
theorem dX5_readPiece_134 : decode cX5_readPiece 134 = .ok (.bipush 62, 2) := by decide +kernel
theorem dX5_readPiece_136 : decode cX5_readPiece 136 = .ok (.if_icmp .eq 25, 3) := by decide +kernel
theorem dX5_readPiece_139 : decode cX5_readPiece 139 = .ok (.iload_n 3, 1) := by decide +kernel
theorem dX5_readPiece_140 : decode cX5_readPiece 140 = .ok (.bipush 61, 2) := by decide +kernel
theorem dX5_readPiece_142 : decode cX5_readPiece 142 = .ok (.if_icmp .eq 19, 3) := by decide +kernel
theorem dX5_readPiece_145 : decode cX5_readPiece 145 = .ok (.aload_n 0, 1) := by decide +kernel
theorem dX5_readPiece_146 : decode cX5_readPiece 146 = .ok (.getfield 9, 3) := by decide +kernel
theorem dX5_readPiece_149 : decode cX5_readPiece 149 = .ok (.iconst 1, 1) := by decide +kernel
theorem dX5_readPiece_150 : decode cX5_readPiece 150 = .ok (.aload_n 0, 1) := by decide +kernel
theorem dX5_readPiece_151 : decode cX5_readPiece 151 = .ok (.getfield 9, 3) := by decide +kernel
theorem dX5_readPiece_154 : decode cX5_readPiece 154 = .ok (.getfield 35, 3) := by decide +kernel
theorem dX5_readPiece_157 : decode cX5_readPiece 157 = .ok (.invokevirtual 39, 3) := by decide +kernel
theorem dX5_readPiece_160 : decode cX5_readPiece 160 = .ok (.ireturn, 1) := by decide +kernel
theorem dX5_readPiece_161 : decode cX5_readPiece 161 = .ok (.aload_n 0, 1) := by decide +kernel
theorem dX5_readPiece_162 : decode cX5_readPiece 162 = .ok (.getfield 9, 3) := by decide +kernel
theorem dX5_readPiece_165 : decode cX5_readPiece 165 = .ok (.dup, 1) := by decide +kernel
theorem dX5_readPiece_166 : decode cX5_readPiece 166 = .ok (.getfield 35, 3) := by decide +kernel
theorem dX5_readPiece_169 : decode cX5_readPiece 169 = .ok (.iconst 1, 1) := by decide +kernel
theorem dX5_readPiece_170 : decode cX5_readPiece 170 = .ok (.iadd, 1) := by decide +kernel
theorem dX5_readPiece_171 : decode cX5_readPiece 171 = .ok (.putfield 35, 3) := by decide +kernel
theorem dX5_readPiece_174 : decode cX5_readPiece 174 = .ok (.aload_n 0, 1) := by decide +kernel
theorem dX5_readPiece_175 : decode cX5_readPiece 175 = .ok (.iload_n 1, 1) := by decide +kernel
theorem dX5_readPiece_176 : decode cX5_readPiece 176 = .ok (.invokevirtual 62, 3) := by decide +kernel
theorem dX5_readPiece_179 : decode cX5_readPiece 179 = .ok (.istore 4, 2) := by decide +kernel
theorem dX5_readPiece_181 : decode cX5_readPiece 181 = .ok (.aload_n 0, 1) := by decide +kernel
theorem dX5_readPiece_182 : decode cX5_readPiece 182 = .ok (.getfield 18, 3) := by decide +kernel
theorem dX5_readPiece_185 : decode cX5_readPiece 185 = .ok (.iload_n 3, 1) := by decide +kernel
theorem dX5_readPiece_186 : decode cX5_readPiece 186 = .ok (.iconst 0, 1) := by decide +kernel
theorem dX5_readPiece_187 : decode cX5_readPiece 187 = .ok (.invokevirtual 65, 3) := by decide +kernel
theorem dX5_readPiece_190 : decode cX5_readPiece 190 = .ok (.pop, 1) := by decide +kernel
theorem dX5_readPiece_191 : decode cX5_readPiece 191 = .ok (.iload 4, 2) := by decide +kernel
theorem dX5_readPiece_193 : decode cX5_readPiece 193 = .ok (.ireturn, 1) := by decide +kernel
theorem dX5_readPieces_0 : decode cX5_readPieces 0 = .ok (.aload_n 0, 1) := by decide +kernel
theorem dX5_readPieces_1 : decode cX5_readPieces 1 = .ok (.iload_n 1, 1) := by decide +kernel
theorem dX5_readPieces_2 : decode cX5_readPieces 2 = .ok (.invokevirtual 82, 3) := by decide +kernel
theorem dX5_readPieces_5 : decode cX5_readPieces 5 = .ok (.ifCond .ne 5, 3) := by decide +kernel
theorem dX5_readPieces_8 : decode cX5_readPieces 8 = .ok (.iconst 0, 1) := by decide +kernel
theorem dX5_readPieces_9 : decode cX5_readPieces 9 = .ok (.ireturn, 1) := by decide +kernel
theorem dX5_readPieces_10 : decode cX5_readPieces 10 = .ok (.iconst 0, 1) := by decide +kernel
theorem dX5_readPieces_11 : decode cX5_readPieces 11 = .ok (.istore_n 2, 1) := by decide +kernel
theorem dX5_readPieces_12 : decode cX5_readPieces 12 = .ok (.iload_n 2, 1) := by decide +kernel
theorem dX5_readPieces_13 : decode cX5_readPieces 13 = .ok (.sipush 300, 3) := by decide +kernel
theorem dX5_readPieces_16 : decode cX5_readPieces 16 = .ok (.if_icmp .ge 62, 3) := by decide +kernel
theorem dX5_readPieces_19 : decode cX5_readPieces 19 = .ok (.aload_n 0, 1) := by decide +kernel
theorem dX5_readPieces_20 : decode cX5_readPieces 20 = .ok (.getfield 9, 3) := by decide +kernel
theorem dX5_readPieces_23 : decode cX5_readPieces 23 = .ok (.invokevirtual 25, 3) := by decide +kernel
theorem dX5_readPieces_26 : decode cX5_readPieces 26 = .ok (.bipush 38, 2) := by decide +kernel
theorem dX5_readPieces_28 : decode cX5_readPieces 28 = .ok (.if_icmp .ne 50, 3) := by decide +kernel
theorem dX5_readPieces_31 : decode cX5_readPieces 31 = .ok (.aload_n 0, 1) := by decide +kernel
theorem dX5_readPieces_32 : decode cX5_readPieces 32 = .ok (.getfield 9, 3) := by decide +kernel
theorem dX5_readPieces_35 : decode cX5_readPieces 35 = .ok (.dup, 1) := by decide +kernel
theorem dX5_readPieces_36 : decode cX5_readPieces 36 = .ok (.getfield 35, 3) := by decide +kernel
theorem dX5_readPieces_39 : decode cX5_readPieces 39 = .ok (.iconst 1, 1) := by decide +kernel
theorem dX5_readPieces_40 : decode cX5_readPieces 40 = .ok (.iadd, 1) := by decide +kernel
theorem dX5_readPieces_41 : decode cX5_readPieces 41 = .ok (.putfield 35, 3) := by decide +kernel
theorem dX5_readPieces_44 : decode cX5_readPieces 44 = .ok (.aload_n 0, 1) := by decide +kernel
theorem dX5_readPieces_45 : decode cX5_readPieces 45 = .ok (.getfield 18, 3) := by decide +kernel
theorem dX5_readPieces_48 : decode cX5_readPieces 48 = .ok (.iconst 4, 1) := by decide +kernel
theorem dX5_readPieces_49 : decode cX5_readPieces 49 = .ok (.iconst 0, 1) := by decide +kernel
theorem dX5_readPieces_50 : decode cX5_readPieces 50 = .ok (.invokevirtual 65, 3) := by decide +kernel
theorem dX5_readPieces_53 : decode cX5_readPieces 53 = .ok (.istore_n 3, 1) := by decide +kernel
theorem dX5_readPieces_54 : decode cX5_readPieces 54 = .ok (.aload_n 0, 1) := by decide +kernel
theorem dX5_readPieces_55 : decode cX5_readPieces 55 = .ok (.iload_n 1, 1) := by decide +kernel
theorem dX5_readPieces_56 : decode cX5_readPieces 56 = .ok (.invokevirtual 82, 3) := by decide +kernel
theorem dX5_readPieces_59 : decode cX5_readPieces 59 = .ok (.ifCond .ne 5, 3) := by decide +kernel
theorem dX5_readPieces_62 : decode cX5_readPieces 62 = .ok (.iconst 0, 1) := by decide +kernel
theorem dX5_readPieces_63 : decode cX5_readPieces 63 = .ok (.ireturn, 1) := by decide +kernel
theorem dX5_readPieces_64 : decode cX5_readPieces 64 = .ok (.aload_n 0, 1) := by decide +kernel
theorem dX5_readPieces_65 : decode cX5_readPieces 65 = .ok (.getfield 18, 3) := by decide +kernel
theorem dX5_readPieces_68 : decode cX5_readPieces 68 = .ok (.iload_n 3, 1) := by decide +kernel
theorem dX5_readPieces_69 : decode cX5_readPieces 69 = .ok (.invokevirtual 78, 3) := by decide +kernel
theorem dX5_readPieces_72 : decode cX5_readPieces 72 = .ok (.iinc 2 1, 3) := by decide +kernel
theorem dX5_readPieces_75 : decode cX5_readPieces 75 = .ok (.goto (-63), 3) := by decide +kernel
theorem dX5_readPieces_78 : decode cX5_readPieces 78 = .ok (.iconst 1, 1) := by decide +kernel
theorem dX5_readPieces_79 : decode cX5_readPieces 79 = .ok (.ireturn, 1) := by decide +kernel
theorem dX5_readSum_0 : decode cX5_readSum 0 = .ok (.aload_n 0, 1) := by decide +kernel
theorem dX5_readSum_1 : decode cX5_readSum 1 = .ok (.iload_n 1, 1) := by decide +kernel
theorem dX5_readSum_2 : decode cX5_readSum 2 = .ok (.invokevirtual 85, 3) := by decide +kernel
theorem dX5_readSum_5 : decode cX5_readSum 5 = .ok (.ifCond .ne 5, 3) := by decide +kernel
theorem dX5_readSum_8 : decode cX5_readSum 8 = .ok (.iconst 0, 1) := by decide +kernel
theorem dX5_readSum_9 : decode cX5_readSum 9 = .ok (.ireturn, 1) := by decide +kernel
theorem dX5_readSum_10 : decode cX5_readSum 10 = .ok (.iconst 0, 1) := by decide +kernel
theorem dX5_readSum_11 : decode cX5_readSum 11 = .ok (.istore_n 2, 1) := by decide +kernel
theorem dX5_readSum_12 : decode cX5_readSum 12 = .ok (.iload_n 2, 1) := by decide +kernel
theorem dX5_readSum_13 : decode cX5_readSum 13 = .ok (.sipush 300, 3) := by decide +kernel
theorem dX5_readSum_16 : decode cX5_readSum 16 = .ok (.if_icmp .ge 64, 3) := by decide +kernel
theorem dX5_readSum_19 : decode cX5_readSum 19 = .ok (.aload_n 0, 1) := by decide +kernel
theorem dX5_readSum_20 : decode cX5_readSum 20 = .ok (.getfield 9, 3) := by decide +kernel
theorem dX5_readSum_23 : decode cX5_readSum 23 = .ok (.invokevirtual 25, 3) := by decide +kernel
theorem dX5_readSum_26 : decode cX5_readSum 26 = .ok (.istore_n 3, 1) := by decide +kernel
theorem dX5_readSum_27 : decode cX5_readSum 27 = .ok (.iload_n 3, 1) := by decide +kernel
theorem dX5_readSum_28 : decode cX5_readSum 28 = .ok (.bipush 43, 2) := by decide +kernel
theorem dX5_readSum_30 : decode cX5_readSum 30 = .ok (.if_icmp .eq 11, 3) := by decide +kernel
theorem dX5_readSum_33 : decode cX5_readSum 33 = .ok (.iload_n 3, 1) := by decide +kernel
theorem dX5_readSum_34 : decode cX5_readSum 34 = .ok (.bipush 45, 2) := by decide +kernel
theorem dX5_readSum_36 : decode cX5_readSum 36 = .ok (.if_icmp .eq 5, 3) := by decide +kernel
theorem dX5_readSum_39 : decode cX5_readSum 39 = .ok (.iconst 1, 1) := by decide +kernel
theorem dX5_readSum_40 : decode cX5_readSum 40 = .ok (.ireturn, 1) := by decide +kernel
theorem dX5_readSum_41 : decode cX5_readSum 41 = .ok (.aload_n 0, 1) := by decide +kernel
theorem dX5_readSum_42 : decode cX5_readSum 42 = .ok (.getfield 9, 3) := by decide +kernel
theorem dX5_readSum_45 : decode cX5_readSum 45 = .ok (.dup, 1) := by decide +kernel
theorem dX5_readSum_46 : decode cX5_readSum 46 = .ok (.getfield 35, 3) := by decide +kernel
theorem dX5_readSum_49 : decode cX5_readSum 49 = .ok (.iconst 1, 1) := by decide +kernel
theorem dX5_readSum_50 : decode cX5_readSum 50 = .ok (.iadd, 1) := by decide +kernel
theorem dX5_readSum_51 : decode cX5_readSum 51 = .ok (.putfield 35, 3) := by decide +kernel
theorem dX5_readSum_54 : decode cX5_readSum 54 = .ok (.aload_n 0, 1) := by decide +kernel
theorem dX5_readSum_55 : decode cX5_readSum 55 = .ok (.iload_n 1, 1) := by decide +kernel
theorem dX5_readSum_56 : decode cX5_readSum 56 = .ok (.invokevirtual 85, 3) := by decide +kernel
theorem dX5_readSum_59 : decode cX5_readSum 59 = .ok (.ifCond .ne 5, 3) := by decide +kernel
theorem dX5_readSum_62 : decode cX5_readSum 62 = .ok (.iconst 0, 1) := by decide +kernel
theorem dX5_readSum_63 : decode cX5_readSum 63 = .ok (.ireturn, 1) := by decide +kernel
theorem dX5_readSum_64 : decode cX5_readSum 64 = .ok (.aload_n 0, 1) := by decide +kernel
theorem dX5_readSum_65 : decode cX5_readSum 65 = .ok (.getfield 18, 3) := by decide +kernel
theorem dX5_readSum_68 : decode cX5_readSum 68 = .ok (.iload_n 3, 1) := by decide +kernel
theorem dX5_readSum_69 : decode cX5_readSum 69 = .ok (.iconst 0, 1) := by decide +kernel
theorem dX5_readSum_70 : decode cX5_readSum 70 = .ok (.invokevirtual 65, 3) := by decide +kernel
theorem dX5_readSum_73 : decode cX5_readSum 73 = .ok (.pop, 1) := by decide +kernel
theorem dX5_readSum_74 : decode cX5_readSum 74 = .ok (.iinc 2 1, 3) := by decide +kernel
theorem dX5_readSum_77 : decode cX5_readSum 77 = .ok (.goto (-65), 3) := by decide +kernel
theorem dX5_readSum_80 : decode cX5_readSum 80 = .ok (.iconst 0, 1) := by decide +kernel
theorem dX5_readSum_81 : decode cX5_readSum 81 = .ok (.ireturn, 1) := by decide +kernel
theorem dX5_readTerm_0 : decode cX5_readTerm 0 = .ok (.aload_n 0, 1) := by decide +kernel
theorem dX5_readTerm_1 : decode cX5_readTerm 1 = .ok (.iload_n 1, 1) := by decide +kernel
theorem dX5_readTerm_2 : decode cX5_readTerm 2 = .ok (.invokevirtual 88, 3) := by decide +kernel
theorem dX5_readTerm_5 : decode cX5_readTerm 5 = .ok (.ifCond .ne 5, 3) := by decide +kernel
theorem dX5_readTerm_8 : decode cX5_readTerm 8 = .ok (.iconst 0, 1) := by decide +kernel
theorem dX5_readTerm_9 : decode cX5_readTerm 9 = .ok (.ireturn, 1) := by decide +kernel
theorem dX5_readTerm_10 : decode cX5_readTerm 10 = .ok (.iconst 0, 1) := by decide +kernel
theorem dX5_readTerm_11 : decode cX5_readTerm 11 = .ok (.istore_n 2, 1) := by decide +kernel
theorem dX5_readTerm_12 : decode cX5_readTerm 12 = .ok (.iload_n 2, 1) := by decide +kernel
theorem dX5_readTerm_13 : decode cX5_readTerm 13 = .ok (.sipush 300, 3) := by decide +kernel
theorem dX5_readTerm_16 : decode cX5_readTerm 16 = .ok (.if_icmp .ge 70, 3) := by decide +kernel
theorem dX5_readTerm_19 : decode cX5_readTerm 19 = .ok (.aload_n 0, 1) := by decide +kernel
theorem dX5_readTerm_20 : decode cX5_readTerm 20 = .ok (.getfield 9, 3) := by decide +kernel
theorem dX5_readTerm_23 : decode cX5_readTerm 23 = .ok (.invokevirtual 25, 3) := by decide +kernel
theorem dX5_readTerm_26 : decode cX5_readTerm 26 = .ok (.istore_n 3, 1) := by decide +kernel
theorem dX5_readTerm_27 : decode cX5_readTerm 27 = .ok (.iload_n 3, 1) := by decide +kernel
theorem dX5_readTerm_28 : decode cX5_readTerm 28 = .ok (.bipush 42, 2) := by decide +kernel
theorem dX5_readTerm_30 : decode cX5_readTerm 30 = .ok (.if_icmp .eq 17, 3) := by decide +kernel
theorem dX5_readTerm_33 : decode cX5_readTerm 33 = .ok (.iload_n 3, 1) := by decide +kernel
theorem dX5_readTerm_34 : decode cX5_readTerm 34 = .ok (.bipush 47, 2) := by decide +kernel
theorem dX5_readTerm_36 : decode cX5_readTerm 36 = .ok (.if_icmp .eq 11, 3) := by decide +kernel
theorem dX5_readTerm_39 : decode cX5_readTerm 39 = .ok (.iload_n 3, 1) := by decide +kernel
theorem dX5_readTerm_40 : decode cX5_readTerm 40 = .ok (.bipush 37, 2) := by decide +kernel
theorem dX5_readTerm_42 : decode cX5_readTerm 42 = .ok (.if_icmp .eq 5, 3) := by decide +kernel
theorem dX5_readTerm_45 : decode cX5_readTerm 45 = .ok (.iconst 1, 1) := by decide +kernel
theorem dX5_readTerm_46 : decode cX5_readTerm 46 = .ok (.ireturn, 1) := by decide +kernel
theorem dX5_readTerm_47 : decode cX5_readTerm 47 = .ok (.aload_n 0, 1) := by decide +kernel
theorem dX5_readTerm_48 : decode cX5_readTerm 48 = .ok (.getfield 9, 3) := by decide +kernel
theorem dX5_readTerm_51 : decode cX5_readTerm 51 = .ok (.dup, 1) := by decide +kernel
theorem dX5_readTerm_52 : decode cX5_readTerm 52 = .ok (.getfield 35, 3) := by decide +kernel
theorem dX5_readTerm_55 : decode cX5_readTerm 55 = .ok (.iconst 1, 1) := by decide +kernel
theorem dX5_readTerm_56 : decode cX5_readTerm 56 = .ok (.iadd, 1) := by decide +kernel
theorem dX5_readTerm_57 : decode cX5_readTerm 57 = .ok (.putfield 35, 3) := by decide +kernel
theorem dX5_readTerm_60 : decode cX5_readTerm 60 = .ok (.aload_n 0, 1) := by decide +kernel
theorem dX5_readTerm_61 : decode cX5_readTerm 61 = .ok (.iload_n 1, 1) := by decide +kernel
theorem dX5_readTerm_62 : decode cX5_readTerm 62 = .ok (.invokevirtual 88, 3) := by decide +kernel
theorem dX5_readTerm_65 : decode cX5_readTerm 65 = .ok (.ifCond .ne 5, 3) := by decide +kernel
theorem dX5_readTerm_68 : decode cX5_readTerm 68 = .ok (.iconst 0, 1) := by decide +kernel
theorem dX5_readTerm_69 : decode cX5_readTerm 69 = .ok (.ireturn, 1) := by decide +kernel
theorem dX5_readTerm_70 : decode cX5_readTerm 70 = .ok (.aload_n 0, 1) := by decide +kernel
theorem dX5_readTerm_71 : decode cX5_readTerm 71 = .ok (.getfield 18, 3) := by decide +kernel
theorem dX5_readTerm_74 : decode cX5_readTerm 74 = .ok (.iload_n 3, 1) := by decide +kernel
theorem dX5_readTerm_75 : decode cX5_readTerm 75 = .ok (.iconst 0, 1) := by decide +kernel
theorem dX5_readTerm_76 : decode cX5_readTerm 76 = .ok (.invokevirtual 65, 3) := by decide +kernel
theorem dX5_readTerm_79 : decode cX5_readTerm 79 = .ok (.pop, 1) := by decide +kernel
theorem dX5_readTerm_80 : decode cX5_readTerm 80 = .ok (.iinc 2 1, 3) := by decide +kernel
theorem dX5_readTerm_83 : decode cX5_readTerm 83 = .ok (.goto (-71), 3) := by decide +kernel
theorem dX5_readTerm_86 : decode cX5_readTerm 86 = .ok (.iconst 0, 1) := by decide +kernel
theorem dX5_readTerm_87 : decode cX5_readTerm 87 = .ok (.ireturn, 1) := by decide +kernel
theorem dX5_readWhole_0 : decode cX5_readWhole 0 = .ok (.aload_n 0, 1) := by decide +kernel
theorem dX5_readWhole_1 : decode cX5_readWhole 1 = .ok (.getfield 18, 3) := by decide +kernel
theorem dX5_readWhole_4 : decode cX5_readWhole 4 = .ok (.invokevirtual 22, 3) := by decide +kernel
theorem dX5_readWhole_7 : decode cX5_readWhole 7 = .ok (.iconst 0, 1) := by decide +kernel
theorem dX5_readWhole_8 : decode cX5_readWhole 8 = .ok (.istore_n 1, 1) := by decide +kernel
theorem dX5_readWhole_9 : decode cX5_readWhole 9 = .ok (.iload_n 1, 1) := by decide +kernel
theorem dX5_readWhole_10 : decode cX5_readWhole 10 = .ok (.bipush 16, 2) := by decide +kernel
theorem dX5_readWhole_12 : decode cX5_readWhole 12 = .ok (.if_icmp .gt 123, 3) := by decide +kernel
theorem dX5_readWhole_15 : decode cX5_readWhole 15 = .ok (.aload_n 0, 1) := by decide +kernel
theorem dX5_readWhole_16 : decode cX5_readWhole 16 = .ok (.getfield 9, 3) := by decide +kernel
theorem dX5_readWhole_19 : decode cX5_readWhole 19 = .ok (.invokevirtual 25, 3) := by decide +kernel
theorem dX5_readWhole_22 : decode cX5_readWhole 22 = .ok (.istore_n 2, 1) := by decide +kernel
theorem dX5_readWhole_23 : decode cX5_readWhole 23 = .ok (.iload_n 2, 1) := by decide +kernel
theorem dX5_readWhole_24 : decode cX5_readWhole 24 = .ok (.invokestatic 31, 3) := by decide +kernel
theorem dX5_readWhole_27 : decode cX5_readWhole 27 = .ok (.ifCond .ne 19, 3) := by decide +kernel
theorem dX5_readWhole_30 : decode cX5_readWhole 30 = .ok (.aload_n 0, 1) := by decide +kernel
theorem dX5_readWhole_31 : decode cX5_readWhole 31 = .ok (.getfield 9, 3) := by decide +kernel
theorem dX5_readWhole_34 : decode cX5_readWhole 34 = .ok (.iconst 1, 1) := by decide +kernel
theorem dX5_readWhole_35 : decode cX5_readWhole 35 = .ok (.aload_n 0, 1) := by decide +kernel
theorem dX5_readWhole_36 : decode cX5_readWhole 36 = .ok (.getfield 9, 3) := by decide +kernel
theorem dX5_readWhole_39 : decode cX5_readWhole 39 = .ok (.getfield 35, 3) := by decide +kernel
theorem dX5_readWhole_42 : decode cX5_readWhole 42 = .ok (.invokevirtual 39, 3) := by decide +kernel
theorem dX5_readWhole_45 : decode cX5_readWhole 45 = .ok (.ireturn, 1) := by decide +kernel
theorem dX5_readWhole_46 : decode cX5_readWhole 46 = .ok (.iload_n 1, 1) := by decide +kernel
theorem dX5_readWhole_47 : decode cX5_readWhole 47 = .ok (.bipush 16, 2) := by decide +kernel
theorem dX5_readWhole_49 : decode cX5_readWhole 49 = .ok (.if_icmp .ne 19, 3) := by decide +kernel
theorem dX5_readWhole_52 : decode cX5_readWhole 52 = .ok (.aload_n 0, 1) := by decide +kernel
theorem dX5_readWhole_53 : decode cX5_readWhole 53 = .ok (.getfield 9, 3) := by decide +kernel
theorem dX5_readWhole_56 : decode cX5_readWhole 56 = .ok (.iconst 4, 1) := by decide +kernel
theorem dX5_readWhole_57 : decode cX5_readWhole 57 = .ok (.aload_n 0, 1) := by decide +kernel
theorem dX5_readWhole_58 : decode cX5_readWhole 58 = .ok (.getfield 9, 3) := by decide +kernel
theorem dX5_readWhole_61 : decode cX5_readWhole 61 = .ok (.getfield 35, 3) := by decide +kernel
theorem dX5_readWhole_64 : decode cX5_readWhole 64 = .ok (.invokevirtual 39, 3) := by decide +kernel
theorem dX5_readWhole_67 : decode cX5_readWhole 67 = .ok (.ireturn, 1) := by decide +kernel
theorem dX5_readWhole_68 : decode cX5_readWhole 68 = .ok (.aload_n 0, 1) := by decide +kernel
theorem dX5_readWhole_69 : decode cX5_readWhole 69 = .ok (.getfield 9, 3) := by decide +kernel
theorem dX5_readWhole_72 : decode cX5_readWhole 72 = .ok (.dup, 1) := by decide +kernel
theorem dX5_readWhole_73 : decode cX5_readWhole 73 = .ok (.getfield 35, 3) := by decide +kernel
theorem dX5_readWhole_76 : decode cX5_readWhole 76 = .ok (.iconst 1, 1) := by decide +kernel
theorem dX5_readWhole_77 : decode cX5_readWhole 77 = .ok (.iadd, 1) := by decide +kernel
theorem dX5_readWhole_78 : decode cX5_readWhole 78 = .ok (.putfield 35, 3) := by decide +kernel
theorem dX5_readWhole_81 : decode cX5_readWhole 81 = .ok (.aload_n 0, 1) := by decide +kernel
theorem dX5_readWhole_82 : decode cX5_readWhole 82 = .ok (.iload_n 2, 1) := by decide +kernel
theorem dX5_readWhole_83 : decode cX5_readWhole 83 = .ok (.iload_n 1, 1) := by decide +kernel
theorem dX5_readWhole_84 : decode cX5_readWhole 84 = .ok (.invokevirtual 43, 3) := by decide +kernel
theorem dX5_readWhole_87 : decode cX5_readWhole 87 = .ok (.ifCond .ne 5, 3) := by decide +kernel
theorem dX5_readWhole_90 : decode cX5_readWhole 90 = .ok (.iconst 0, 1) := by decide +kernel
theorem dX5_readWhole_91 : decode cX5_readWhole 91 = .ok (.ireturn, 1) := by decide +kernel
theorem dX5_readWhole_92 : decode cX5_readWhole 92 = .ok (.aload_n 0, 1) := by decide +kernel
theorem dX5_readWhole_93 : decode cX5_readWhole 93 = .ok (.getfield 18, 3) := by decide +kernel
theorem dX5_readWhole_96 : decode cX5_readWhole 96 = .ok (.iload_n 1, 1) := by decide +kernel
theorem dX5_readWhole_97 : decode cX5_readWhole 97 = .ok (.iconst 1, 1) := by decide +kernel
theorem dX5_readWhole_98 : decode cX5_readWhole 98 = .ok (.iadd, 1) := by decide +kernel
theorem dX5_readWhole_99 : decode cX5_readWhole 99 = .ok (.putfield 46, 3) := by decide +kernel
theorem dX5_readWhole_102 : decode cX5_readWhole 102 = .ok (.aload_n 0, 1) := by decide +kernel
theorem dX5_readWhole_103 : decode cX5_readWhole 103 = .ok (.getfield 9, 3) := by decide +kernel
theorem dX5_readWhole_106 : decode cX5_readWhole 106 = .ok (.invokevirtual 25, 3) := by decide +kernel
theorem dX5_readWhole_109 : decode cX5_readWhole 109 = .ok (.iconst (-1), 1) := by decide +kernel
theorem dX5_readWhole_110 : decode cX5_readWhole 110 = .ok (.if_icmp .ne 5, 3) := by decide +kernel
theorem dX5_readWhole_113 : decode cX5_readWhole 113 = .ok (.iconst 1, 1) := by decide +kernel
theorem dX5_readWhole_114 : decode cX5_readWhole 114 = .ok (.ireturn, 1) := by decide +kernel
theorem dX5_readWhole_115 : decode cX5_readWhole 115 = .ok (.aload_n 0, 1) := by decide +kernel
theorem dX5_readWhole_116 : decode cX5_readWhole 116 = .ok (.getfield 9, 3) := by decide +kernel
theorem dX5_readWhole_119 : decode cX5_readWhole 119 = .ok (.bipush 59, 2) := by decide +kernel
theorem dX5_readWhole_121 : decode cX5_readWhole 121 = .ok (.invokevirtual 49, 3) := by decide +kernel
theorem dX5_readWhole_124 : decode cX5_readWhole 124 = .ok (.ifCond .ne 5, 3) := by decide +kernel
theorem dX5_readWhole_127 : decode cX5_readWhole 127 = .ok (.iconst 0, 1) := by decide +kernel
theorem dX5_readWhole_128 : decode cX5_readWhole 128 = .ok (.ireturn, 1) := by decide +kernel
theorem dX5_readWhole_129 : decode cX5_readWhole 129 = .ok (.iinc 1 1, 3) := by decide +kernel
theorem dX5_readWhole_132 : decode cX5_readWhole 132 = .ok (.goto (-123), 3) := by decide +kernel
theorem dX5_readWhole_135 : decode cX5_readWhole 135 = .ok (.iconst 0, 1) := by decide +kernel
theorem dX5_readWhole_136 : decode cX5_readWhole 136 = .ok (.ireturn, 1) := by decide +kernel

