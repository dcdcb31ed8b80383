set_option maxHeartbeats 4000000 in
set_option maxRecDepth 100000 in
theorem c_X2_hasJudge (l : Launch) (D : va_G) (g : xG) (T : Nat × Nat × Nat) (h0 : Nat) (s0 : xS) (hσ : xRR s0) (d : Nat) (hd : xDay d) (j : Int) (rj : xR j) (p0 : s0 (d + 1) = fun _ => (-1)) : Met l yX2_hasJudge (xws yX2_hasJudge cX2_hasJudge 2 (some .boolean)) { frames := 0, cells := 0, slots := 0, locals := 0 } (xP [.ref (h0 + d), .int (xJ j)] D g T h0 s0) (xQi D g h0 (fun r τ => s0 = τ ∧ (r = 0))) 0 0 (xA h0) := by
  refine x_met hσ (by decide) (Nat.le_of_ble_eq_true rfl) ?_
  intro p e s m args below meth c hx hb hr hml hown hT hlk hnm hE hW ls hl
  have hl : lv_has ls 2 [(0, .ref (h0 + d)), (1, .int (xJ j))] := hl
  obtain ⟨Q, eQ⟩ : ∃ Q, Q = MQ below (xQi D g h0 (fun r τ => s0 = τ ∧ (r = 0))) args s 0 0 (xA h0) := ⟨_, rfl⟩
  rw [← eQ]
  generalize hHe : ([] : List Loc) = locs at hW ⊢
  obtain ⟨H, eH⟩ : ∃ H, H = s.heap := ⟨_, rfl⟩
  rw [← eH] at hW ⊢
  have hbd : (136 ≤ d ∧ d < 209) ∧ (d ≤ 146 ∨ 158 ≤ d) := by unfold xDay at hd; omega
  refine x_iload_n hx hb hl 1 rfl dX2_hasJudge_0 rfl ?_
  refine x_if_lt (tgt := 23) hx hb rj dX2_hasJudge_1 (by decide) (fun c1 => ?_) (fun c1 => ?_)
  · skip
    refine x_iconst hx hb dX2_hasJudge_23 ?_
    rw [eQ]
    exact x_zret hx hb hr hlk hW (by omega) ⟨rfl, by omega⟩ dX2_hasJudge_24
  refine x_iload_n hx hb hl 1 rfl dX2_hasJudge_4 rfl ?_
  refine x_iconst hx hb dX2_hasJudge_5 ?_
  refine x_icmp_ge (tgt := 23) hx hb rj (by decide) dX2_hasJudge_6 (by decide) (fun c2 => ?_) (fun c2 => ?_)
  · skip
    refine x_iconst hx hb dX2_hasJudge_23 ?_
    rw [eQ]
    exact x_zret hx hb hr hlk hW (by omega) ⟨rfl, by omega⟩ dX2_hasJudge_24
  refine x_aload_n hx hb hl 0 rfl dX2_hasJudge_9 rfl ?_
  refine x_get (j := 0) (v := .ref (h0 + (d + 1))) hx hb hown hT hE hW cls_X2 (Or.inl (by omega)) (so_day0 h0 g hd _) (by decide) rfl wq383 dX2_hasJudge_10 ?_
  refine x_iload_n hx hb hl 1 rfl dX2_hasJudge_13 rfl ?_
  refine x_iald hx hb hE hW (Or.inl (by omega)) (sa_day1 h0 g hd _) (by omega) (by decide) dX2_hasJudge_14 ?_
  refine x_rd hW (fun x3 ex3 rx3 => ?_)
  have fx3 : x3 = (-1) := by rw [ex3, p0]
  refine x_iconst hx hb dX2_hasJudge_15 ?_
  refine x_icmp_eq (tgt := 23) hx hb rx3 (by decide) dX2_hasJudge_16 (by decide) (fun c4 => ?_) (fun c4 => False.elim (by omega))
  refine x_iconst hx hb dX2_hasJudge_23 ?_
  rw [eQ]
  exact x_zret hx hb hr hlk hW (by omega) ⟨rfl, by omega⟩ dX2_hasJudge_24
set_option maxHeartbeats 4000000 in
set_option maxRecDepth 100000 in
theorem c_X2_hasFelon (l : Launch) (D : va_G) (g : xG) (T : Nat × Nat × Nat) (h0 : Nat) (s0 : xS) (hσ : xRR s0) (d : Nat) (hd : xDay d) (f : Int) (rf : xR f) (p0 : s0 (d + 6) = fun _ => (-1)) : Met l yX2_hasFelon (xws yX2_hasFelon cX2_hasFelon 2 (some .boolean)) { frames := 0, cells := 0, slots := 0, locals := 0 } (xP [.ref (h0 + d), .int (xJ f)] D g T h0 s0) (xQi D g h0 (fun r τ => s0 = τ ∧ (r = 0))) 0 0 (xA h0) := by
  refine x_met hσ (by decide) (Nat.le_of_ble_eq_true rfl) ?_
  intro p e s m args below meth c hx hb hr hml hown hT hlk hnm hE hW ls hl
  have hl : lv_has ls 2 [(0, .ref (h0 + d)), (1, .int (xJ f))] := hl
  obtain ⟨Q, eQ⟩ : ∃ Q, Q = MQ below (xQi D g h0 (fun r τ => s0 = τ ∧ (r = 0))) args s 0 0 (xA h0) := ⟨_, rfl⟩
  rw [← eQ]
  generalize hHe : ([] : List Loc) = locs at hW ⊢
  obtain ⟨H, eH⟩ : ∃ H, H = s.heap := ⟨_, rfl⟩
  rw [← eH] at hW ⊢
  have hbd : (136 ≤ d ∧ d < 209) ∧ (d ≤ 146 ∨ 158 ≤ d) := by unfold xDay at hd; omega
  refine x_iload_n hx hb hl 1 rfl dX2_hasFelon_0 rfl ?_
  refine x_if_lt (tgt := 24) hx hb rf dX2_hasFelon_1 (by decide) (fun c1 => ?_) (fun c1 => ?_)
  · skip
    refine x_iconst hx hb dX2_hasFelon_24 ?_
    rw [eQ]
    exact x_zret hx hb hr hlk hW (by omega) ⟨rfl, by omega⟩ dX2_hasFelon_25
  refine x_iload_n hx hb hl 1 rfl dX2_hasFelon_4 rfl ?_
  refine x_bipush hx hb dX2_hasFelon_5 (by decide) ?_
  refine x_icmp_ge (tgt := 24) hx hb rf (by decide) dX2_hasFelon_7 (by decide) (fun c2 => ?_) (fun c2 => ?_)
  · skip
    refine x_iconst hx hb dX2_hasFelon_24 ?_
    rw [eQ]
    exact x_zret hx hb hr hlk hW (by omega) ⟨rfl, by omega⟩ dX2_hasFelon_25
  refine x_aload_n hx hb hl 0 rfl dX2_hasFelon_10 rfl ?_
  refine x_get (j := 3) (v := .ref (h0 + (d + 6))) hx hb hown hT hE hW cls_X2 (Or.inl (by omega)) (so_day0 h0 g hd _) (by decide) rfl wq388 dX2_hasFelon_11 ?_
  refine x_iload_n hx hb hl 1 rfl dX2_hasFelon_14 rfl ?_
  refine x_iald hx hb hE hW (Or.inl (by omega)) (sa_day6 h0 g hd _) (by omega) (by decide) dX2_hasFelon_15 ?_
  refine x_rd hW (fun x3 ex3 rx3 => ?_)
  have fx3 : x3 = (-1) := by rw [ex3, p0]
  refine x_iconst hx hb dX2_hasFelon_16 ?_
  refine x_icmp_eq (tgt := 24) hx hb rx3 (by decide) dX2_hasFelon_17 (by decide) (fun c4 => ?_) (fun c4 => False.elim (by omega))
  refine x_iconst hx hb dX2_hasFelon_24 ?_
  rw [eQ]
  exact x_zret hx hb hr hlk hW (by omega) ⟨rfl, by omega⟩ dX2_hasFelon_25
set_option maxHeartbeats 4000000 in
set_option maxRecDepth 100000 in
theorem c_X2_mustServe (l : Launch) (D : va_G) (g : xG) (T : Nat × Nat × Nat) (h0 : Nat) (s0 : xS) (hσ : xRR s0) (d : Nat) (hd : xDay d) (f : Int) (rf : xR f) (p0 : s0 (d + 6) = fun _ => (-1)) : Met l yX2_mustServe (xws yX2_mustServe cX2_mustServe 2 (some .boolean)) { frames := 1, cells := 0, slots := 0, locals := 21 } (xP [.ref (h0 + d), .int (xJ f)] D g T h0 s0) (xQi D g h0 (fun r τ => s0 = τ ∧ (r = 0))) 0 0 (xA h0) := by
  refine x_met hσ (by decide) (Nat.le_of_ble_eq_true rfl) ?_
  intro p e s m args below meth c hx hb hr hml hown hT hlk hnm hE hW ls hl
  have hl : lv_has ls 2 [(0, .ref (h0 + d)), (1, .int (xJ f))] := hl
  obtain ⟨Q, eQ⟩ : ∃ Q, Q = MQ below (xQi D g h0 (fun r τ => s0 = τ ∧ (r = 0))) args s 0 0 (xA h0) := ⟨_, rfl⟩
  rw [← eQ]
  generalize hHe : ([] : List Loc) = locs at hW ⊢
  obtain ⟨H, eH⟩ : ∃ H, H = s.heap := ⟨_, rfl⟩
  rw [← eH] at hW ⊢
  have hbd : (136 ≤ d ∧ d < 209) ∧ (d ≤ 146 ∨ 158 ≤ d) := by unfold xDay at hd; omega
  refine x_aload_n hx hb hl 0 rfl dX2_mustServe_0 rfl ?_
  refine x_iload_n hx hb hl 1 rfl dX2_mustServe_1 rfl ?_
  refine x_goi (x_runV (As := [.int (xJ f)]) hx hb hml hown hT hE hW hl.1 (Or.inl (by omega)) (so_day0 h0 g hd _) rfl cf_X2_hasFelon wq862 wq53 wq860 (c_X2_hasFelon l D g T h0 s0 hW.2.1 d hd f rf p0) ⟨rfl, rfl, ⟨by decide, by decide⟩, ⟨by decide, by decide⟩⟩ rfl rfl (Nat.le_of_ble_eq_true rfl) dX2_mustServe_2) hW (fun x1 s2 H locs rx1 hp3 hW => ?_)
  obtain ⟨es2, hp3⟩ := hp3
  subst es2
  have ghp3 := hp3
  refine x_if_eq (tgt := 30) hx hb rx1 dX2_mustServe_5 (by decide) (fun c4 => ?_) (fun c4 => False.elim (by omega))
  refine x_iconst hx hb dX2_mustServe_30 ?_
  rw [eQ]
  exact x_zret hx hb hr hlk hW (by omega) ⟨rfl, by omega⟩ dX2_mustServe_31
set_option maxHeartbeats 4000000 in
set_option maxRecDepth 100000 in
theorem c_X2_draw (l : Launch) (D : va_G) (g : xG) (T : Nat × Nat × Nat) (h0 : Nat) (s0 : xS) (hσ : xRR s0) (d : Nat) (hd : xDay d) (z9 : Int) (z10 : Int) (z11 : Int) (z7 : Int) (p0 : 0 ≤ s0 d 8 ∧ s0 d 8 ≤ 65535) (p1 : 0 ≤ s0 d 7 ∧ s0 d 7 ≤ 9999) (p2 : s0 d 9 = z9) (p3 : s0 d 10 = z10) (p4 : s0 d 11 = z11) (p5 : s0 d 7 = z7) : Met l yX2_draw (xws yX2_draw cX2_draw 1 (some .int)) { frames := 0, cells := 0, slots := 0, locals := 0 } (xP [.ref (h0 + d)] D g T h0 s0) (xQi D g h0 (fun r τ => xFr (fun k => k = d) s0 τ ∧ (((0 ≤ τ d 8 ∧ τ d 8 ≤ 65535) ∧ (0 ≤ τ d 7 ∧ τ d 7 ≤ 9999) ∧ (τ d 9 = z9) ∧ (τ d 10 = z10) ∧ (τ d 11 = z11) ∧ (τ d 7 = z7) ∧ True) ∧ (0 ≤ r ∧ r < 10)))) 0 0 (xA h0) := by
  refine x_met hσ (by decide) (Nat.le_of_ble_eq_true rfl) ?_
  intro p e s m args below meth c hx hb hr hml hown hT hlk hnm hE hW ls hl
  have hl : lv_has ls 1 [(0, .ref (h0 + d))] := hl
  obtain ⟨Q, eQ⟩ : ∃ Q, Q = MQ below (xQi D g h0 (fun r τ => xFr (fun k => k = d) s0 τ ∧ (((0 ≤ τ d 8 ∧ τ d 8 ≤ 65535) ∧ (0 ≤ τ d 7 ∧ τ d 7 ≤ 9999) ∧ (τ d 9 = z9) ∧ (τ d 10 = z10) ∧ (τ d 11 = z11) ∧ (τ d 7 = z7) ∧ True) ∧ (0 ≤ r ∧ r < 10)))) args s 0 0 (xA h0) := ⟨_, rfl⟩
  rw [← eQ]
  generalize hHe : ([] : List Loc) = locs at hW ⊢
  obtain ⟨H, eH⟩ : ∃ H, H = s.heap := ⟨_, rfl⟩
  rw [← eH] at hW ⊢
  have hF : xFr (fun k => k = d) s0 s0 := xFr.rf
  have hbd : (136 ≤ d ∧ d < 209) ∧ (d ≤ 146 ∨ 158 ≤ d) := by unfold xDay at hd; omega
  refine x_aload_n hx hb hl 0 rfl dX2_draw_0 rfl ?_
  refine x_sipush hx hb dX2_draw_1 (by decide) ?_
  refine x_aload_n hx hb hl 0 rfl dX2_draw_4 rfl ?_
  refine x_get (j := 8) (v := .int (xJ (s0 d 8))) hx hb hown hT hE hW cls_X2 (Or.inl (by omega)) (so_day0 h0 g hd _) (by decide) rfl wq404 dX2_draw_5 ?_
  refine x_rd hW (fun x1 ex1 rx1 => ?_)
  have qx1 : 0 ≤ x1 ∧ x1 ≤ 65535 := by rw [ex1]; exact p0
  refine x_imul hx hb dX2_draw_8 ?_
  refine x_sipush hx hb dX2_draw_9 (by decide) ?_
  refine x_iadd hx hb dX2_draw_12 ?_
  refine lv_ldc (v := xJ 65536) hx hb hown (hT _ wq799) dX2_draw_13 ?_
  refine x_irem hx hb (by omega) (by decide) (by omega) (by decide) dX2_draw_15 ?_
  refine x_put (j := 8) hx hb hown hT hE hW cls_X2 (by omega) (fun σ => so_day0 h0 g hd σ) (by decide) (st_X2_8 h0 s0 d (((25173 * x1) + 13849) % 65536)) (ln_X2_8 h0 _ _) wq404 rfl rfl rfl (by omega) dX2_draw_16 (fun H locs s2 es2 hW => ?_)
  have q3 : 0 ≤ s2 d 8 ∧ s2 d 8 ≤ 65535 := by rw [es2, xU_s]; omega
  have q4 : 0 ≤ s2 d 7 ∧ s2 d 7 ≤ 9999 := by rw [es2, xU_j _ _ (by decide)]; exact p1
  have q5 : s2 d 9 = z9 := by rw [es2, xU_j _ _ (by decide)]; exact p2
  have q6 : s2 d 10 = z10 := by rw [es2, xU_j _ _ (by decide)]; exact p3
  have q7 : s2 d 11 = z11 := by rw [es2, xU_j _ _ (by decide)]; exact p4
  have q8 : s2 d 7 = z7 := by rw [es2, xU_j _ _ (by decide)]; exact p5
  have hF9 := hF.put es2 (by omega)
  refine x_aload_n hx hb hl 0 rfl dX2_draw_19 rfl ?_
  refine x_get (j := 8) (v := .int (xJ (s2 d 8))) hx hb hown hT hE hW cls_X2 (Or.inl (by omega)) (so_day0 h0 g hd _) (by decide) rfl wq404 dX2_draw_20 ?_
  refine x_rd hW (fun x10 ex10 rx10 => ?_)
  have qx10 : 0 ≤ x10 ∧ x10 ≤ 65535 := by rw [ex10]; exact q3
  refine x_bipush hx hb dX2_draw_23 (by decide) ?_
  refine x_irem hx hb rx10 (by decide) (by omega) (by decide) dX2_draw_25 ?_
  rw [eQ]
  exact x_iret hx hb hr hlk hW (by omega) ⟨hF9, ⟨q3, q4, q5, q6, q7, q8, trivial⟩, by omega⟩ dX2_draw_26
set_option maxHeartbeats 4000000 in
set_option maxRecDepth 100000 in
theorem c_X2_owedByAll (l : Launch) (D : va_G) (g : xG) (T : Nat × Nat × Nat) (h0 : Nat) (s0 : xS) (hσ : xRR s0) (d : Nat) (hd : xDay d) (p0 : s0 (d + 7) = fun _ => 0) : Met l yX2_owedByAll (xws yX2_owedByAll cX2_owedByAll 3 (some .int)) { frames := 0, cells := 0, slots := 0, locals := 0 } (xP [.ref (h0 + d)] D g T h0 s0) (xQi D g h0 (fun r τ => s0 = τ ∧ (r = 0))) 0 0 (xA h0) := by
  refine x_met hσ (by decide) (Nat.le_of_ble_eq_true rfl) ?_
  intro p e s m args below meth c hx hb hr hml hown hT hlk hnm hE hW ls hl
  have hl : lv_has ls 3 [(0, .ref (h0 + d))] := hl
  obtain ⟨Q, eQ⟩ : ∃ Q, Q = MQ below (xQi D g h0 (fun r τ => s0 = τ ∧ (r = 0))) args s 0 0 (xA h0) := ⟨_, rfl⟩
  rw [← eQ]
  generalize hHe : ([] : List Loc) = locs at hW ⊢
  obtain ⟨H, eH⟩ : ∃ H, H = s.heap := ⟨_, rfl⟩
  rw [← eH] at hW ⊢
  have hbd : (136 ≤ d ∧ d < 209) ∧ (d ≤ 146 ∨ 158 ≤ d) := by unfold xDay at hd; omega
  refine x_iconst hx hb dX2_owedByAll_0 ?_
  refine lv_istore_n (lv' := [(1, .int (xJ 0)), (0, .ref (h0 + d))]) hx hb dX2_owedByAll_1 rfl hl (by decide) rfl (fun ls hl => ?_)
  refine x_iconst hx hb dX2_owedByAll_2 ?_
  refine lv_istore_n (lv' := [(2, .int (xJ 0)), (1, .int (xJ 0)), (0, .ref (h0 + d))]) hx hb dX2_owedByAll_3 rfl hl (by decide) rfl (fun ls hl => ?_)
  have L4 : ∀ (fu : Nat) (i1_4 : Int) (i2_4 : Int) (ls : Array Slot), (xR i1_4) → (xR i2_4) → (0 ≤ i2_4) → (i1_4 = 0) → (10 - i2_4).toNat < fu → lv_has ls 3 [(0, .ref (h0 + d)), (1, .int (xJ i1_4)), (2, .int (xJ i2_4))] → W p l e { frames := 0, cells := 0, slots := 0, locals := 0 } s m args below meth c H locs 0 0 Q (F0 m 4 ls []) := by
    intro fu
    induction fu with
    | zero => intro i1_4 i2_4 ls ri1_4 ri2_4 v4_0 v4_1 hm; exact absurd hm (Nat.not_lt_zero _)
    | succ fu ih4 =>
      intro i1_4 i2_4 ls ri1_4 ri2_4 v4_0 v4_1 hm  hl
      refine x_iload_n hx hb hl 2 rfl dX2_owedByAll_4 rfl ?_
      refine x_bipush hx hb dX2_owedByAll_5 (by decide) ?_
      refine x_icmp_ge (tgt := 25) hx hb ri2_4 (by decide) dX2_owedByAll_7 (by decide) (fun c1 => ?_) (fun c1 => ?_)
      · skip
        refine x_iload_n hx hb hl 1 rfl dX2_owedByAll_25 rfl ?_
        rw [eQ]
        exact x_iret hx hb hr hlk hW ri1_4 ⟨rfl, by omega⟩ dX2_owedByAll_26
      refine x_iload_n hx hb hl 1 rfl dX2_owedByAll_10 rfl ?_
      refine x_aload_n hx hb hl 0 rfl dX2_owedByAll_11 rfl ?_
      refine x_get (j := 4) (v := .ref (h0 + (d + 7))) hx hb hown hT hE hW cls_X2 (Or.inl (by omega)) (so_day0 h0 g hd _) (by decide) rfl wq392 dX2_owedByAll_12 ?_
      refine x_iload_n hx hb hl 2 rfl dX2_owedByAll_15 rfl ?_
      refine x_iald hx hb hE hW (Or.inl (by omega)) (sa_day7 h0 g hd _) (by omega) (by decide) dX2_owedByAll_16 ?_
      refine x_rd hW (fun x2 ex2 rx2 => ?_)
      have fx2 : x2 = 0 := by rw [ex2, p0]
      refine x_iadd hx hb dX2_owedByAll_17 ?_
      refine x_nm (fun x3 ex3 => ?_)
      refine lv_istore_n (lv' := [(1, .int (xJ x3)), (0, .ref (h0 + d)), (2, .int (xJ i2_4))]) hx hb dX2_owedByAll_18 rfl hl (by decide) rfl (fun ls hl => ?_)
      refine x_iinc (lv' := [(2, .int (xJ (i2_4 + 1))), (1, .int (xJ x3)), (0, .ref (h0 + d))]) hx hb hl 2 rfl dX2_owedByAll_19 (by decide) rfl (fun ls hl => ?_)
      refine lv_goto (tgt := 4) hx hb dX2_owedByAll_22 (by decide) ?_
      exact ih4 x3 (i2_4 + 1) ls (by omega) (by omega) (by omega) (by omega) (by omega)  (lv_sub hl [2, 1, 0] rfl)
  exact L4 ((10 - 0 : Int).toNat + 1) 0 0 ls (by decide) (by decide) (by omega) (by omega) (Nat.lt_succ_self _)  (lv_sub hl [2, 1, 0] rfl)
set_option maxHeartbeats 4000000 in
set_option maxRecDepth 100000 in
theorem c_X2_howManyDrowned (l : Launch) (D : va_G) (g : xG) (T : Nat × Nat × Nat) (h0 : Nat) (s0 : xS) (hσ : xRR s0) (d : Nat) (hd : xDay d) (p0 : s0 (d + 6) = fun _ => (-1)) : Met l yX2_howManyDrowned (xws yX2_howManyDrowned cX2_howManyDrowned 3 (some .int)) { frames := 1, cells := 0, slots := 0, locals := 21 } (xP [.ref (h0 + d)] D g T h0 s0) (xQi D g h0 (fun r τ => s0 = τ ∧ (r = 0))) 0 0 (xA h0) := by
  refine x_met hσ (by decide) (Nat.le_of_ble_eq_true rfl) ?_
  intro p e s m args below meth c hx hb hr hml hown hT hlk hnm hE hW ls hl
  have hl : lv_has ls 3 [(0, .ref (h0 + d))] := hl
  obtain ⟨Q, eQ⟩ : ∃ Q, Q = MQ below (xQi D g h0 (fun r τ => s0 = τ ∧ (r = 0))) args s 0 0 (xA h0) := ⟨_, rfl⟩
  rw [← eQ]
  generalize hHe : ([] : List Loc) = locs at hW ⊢
  obtain ⟨H, eH⟩ : ∃ H, H = s.heap := ⟨_, rfl⟩
  rw [← eH] at hW ⊢
  have hbd : (136 ≤ d ∧ d < 209) ∧ (d ≤ 146 ∨ 158 ≤ d) := by unfold xDay at hd; omega
  refine x_iconst hx hb dX2_howManyDrowned_0 ?_
  refine lv_istore_n (lv' := [(1, .int (xJ 0)), (0, .ref (h0 + d))]) hx hb dX2_howManyDrowned_1 rfl hl (by decide) rfl (fun ls hl => ?_)
  refine x_iconst hx hb dX2_howManyDrowned_2 ?_
  refine lv_istore_n (lv' := [(2, .int (xJ 0)), (1, .int (xJ 0)), (0, .ref (h0 + d))]) hx hb dX2_howManyDrowned_3 rfl hl (by decide) rfl (fun ls hl => ?_)
  have L4 : ∀ (fu : Nat) (i1_4 : Int) (i2_4 : Int) (H : Heap) (locs : List Loc) (ls : Array Slot), (xR i1_4) → (xR i2_4) → (0 ≤ i2_4) → (i1_4 = 0) → (10 - i2_4).toNat < fu → xW D g h0 s H locs s0 → lv_has ls 3 [(0, .ref (h0 + d)), (1, .int (xJ i1_4)), (2, .int (xJ i2_4))] → W p l e { frames := 1, cells := 0, slots := 0, locals := 21 } s m args below meth c H locs 0 0 Q (F0 m 4 ls []) := by
    intro fu
    induction fu with
    | zero => intro i1_4 i2_4 H locs ls ri1_4 ri2_4 v4_0 v4_1 hm; exact absurd hm (Nat.not_lt_zero _)
    | succ fu ih4 =>
      intro i1_4 i2_4 H locs ls ri1_4 ri2_4 v4_0 v4_1 hm hW hl
      refine x_iload_n hx hb hl 2 rfl dX2_howManyDrowned_4 rfl ?_
      refine x_bipush hx hb dX2_howManyDrowned_5 (by decide) ?_
      refine x_icmp_ge (tgt := 41) hx hb ri2_4 (by decide) dX2_howManyDrowned_7 (by decide) (fun c1 => ?_) (fun c1 => ?_)
      · skip
        refine x_iload_n hx hb hl 1 rfl dX2_howManyDrowned_41 rfl ?_
        rw [eQ]
        exact x_iret hx hb hr hlk hW ri1_4 ⟨rfl, by omega⟩ dX2_howManyDrowned_42
      refine x_iload_n hx hb hl 1 rfl dX2_howManyDrowned_10 rfl ?_
      refine x_aload_n hx hb hl 0 rfl dX2_howManyDrowned_11 rfl ?_
      refine x_iload_n hx hb hl 2 rfl dX2_howManyDrowned_12 rfl ?_
      refine x_goi (x_runV (As := [.int (xJ i2_4)]) hx hb hml hown hT hE hW hl.1 (Or.inl (by omega)) (so_day0 h0 g hd _) rfl cf_X2_hasFelon wq862 wq53 wq860 (c_X2_hasFelon l D g T h0 s0 hW.2.1 d hd i2_4 ri2_4 p0) ⟨rfl, rfl, ⟨by decide, by decide⟩, ⟨by decide, by decide⟩⟩ rfl rfl (Nat.le_of_ble_eq_true rfl) dX2_howManyDrowned_13) hW (fun x2 s3 H locs rx2 hp4 hW => ?_)
      obtain ⟨es3, hp4⟩ := hp4
      subst es3
      have ghp4 := hp4
      refine x_if_eq (tgt := 32) hx hb rx2 dX2_howManyDrowned_16 (by decide) (fun c5 => ?_) (fun c5 => False.elim (by omega))
      refine x_iconst hx hb dX2_howManyDrowned_32 ?_
      refine x_iadd hx hb dX2_howManyDrowned_33 ?_
      refine x_nm (fun x6 ex6 => ?_)
      refine lv_istore_n (lv' := [(1, .int (xJ x6)), (0, .ref (h0 + d)), (2, .int (xJ i2_4))]) hx hb dX2_howManyDrowned_34 rfl hl (by decide) rfl (fun ls hl => ?_)
      refine x_iinc (lv' := [(2, .int (xJ (i2_4 + 1))), (1, .int (xJ x6)), (0, .ref (h0 + d))]) hx hb hl 2 rfl dX2_howManyDrowned_35 (by decide) rfl (fun ls hl => ?_)
      refine lv_goto (tgt := 4) hx hb dX2_howManyDrowned_38 (by decide) ?_
      exact ih4 x6 (i2_4 + 1) H locs ls (by omega) (by omega) (by omega) (by omega) (by omega) hW (lv_sub hl [2, 1, 0] rfl)
  exact L4 ((10 - 0 : Int).toNat + 1) 0 0 H locs ls (by decide) (by decide) (by omega) (by omega) (Nat.lt_succ_self _) hW (lv_sub hl [2, 1, 0] rfl)
set_option maxHeartbeats 4000000 in
set_option maxRecDepth 100000 in
theorem c_X2_howManyOweNothing (l : Launch) (D : va_G) (g : xG) (T : Nat × Nat × Nat) (h0 : Nat) (s0 : xS) (hσ : xRR s0) (d : Nat) (hd : xDay d) (p0 : s0 (d + 6) = fun _ => (-1)) : Met l yX2_howManyOweNothing (xws yX2_howManyOweNothing cX2_howManyOweNothing 3 (some .int)) { frames := 1, cells := 0, slots := 0, locals := 21 } (xP [.ref (h0 + d)] D g T h0 s0) (xQi D g h0 (fun r τ => s0 = τ ∧ (r = 0))) 0 0 (xA h0) := by
  refine x_met hσ (by decide) (Nat.le_of_ble_eq_true rfl) ?_
  intro p e s m args below meth c hx hb hr hml hown hT hlk hnm hE hW ls hl
  have hl : lv_has ls 3 [(0, .ref (h0 + d))] := hl
  obtain ⟨Q, eQ⟩ : ∃ Q, Q = MQ below (xQi D g h0 (fun r τ => s0 = τ ∧ (r = 0))) args s 0 0 (xA h0) := ⟨_, rfl⟩
  rw [← eQ]
  generalize hHe : ([] : List Loc) = locs at hW ⊢
  obtain ⟨H, eH⟩ : ∃ H, H = s.heap := ⟨_, rfl⟩
  rw [← eH] at hW ⊢
  have hbd : (136 ≤ d ∧ d < 209) ∧ (d ≤ 146 ∨ 158 ≤ d) := by unfold xDay at hd; omega
  refine x_iconst hx hb dX2_howManyOweNothing_0 ?_
  refine lv_istore_n (lv' := [(1, .int (xJ 0)), (0, .ref (h0 + d))]) hx hb dX2_howManyOweNothing_1 rfl hl (by decide) rfl (fun ls hl => ?_)
  refine x_iconst hx hb dX2_howManyOweNothing_2 ?_
  refine lv_istore_n (lv' := [(2, .int (xJ 0)), (1, .int (xJ 0)), (0, .ref (h0 + d))]) hx hb dX2_howManyOweNothing_3 rfl hl (by decide) rfl (fun ls hl => ?_)
  have L4 : ∀ (fu : Nat) (i1_4 : Int) (i2_4 : Int) (H : Heap) (locs : List Loc) (ls : Array Slot), (xR i1_4) → (xR i2_4) → (0 ≤ i2_4) → (i1_4 = 0) → (10 - i2_4).toNat < fu → xW D g h0 s H locs s0 → lv_has ls 3 [(0, .ref (h0 + d)), (1, .int (xJ i1_4)), (2, .int (xJ i2_4))] → W p l e { frames := 1, cells := 0, slots := 0, locals := 21 } s m args below meth c H locs 0 0 Q (F0 m 4 ls []) := by
    intro fu
    induction fu with
    | zero => intro i1_4 i2_4 H locs ls ri1_4 ri2_4 v4_0 v4_1 hm; exact absurd hm (Nat.not_lt_zero _)
    | succ fu ih4 =>
      intro i1_4 i2_4 H locs ls ri1_4 ri2_4 v4_0 v4_1 hm hW hl
      refine x_iload_n hx hb hl 2 rfl dX2_howManyOweNothing_4 rfl ?_
      refine x_bipush hx hb dX2_howManyOweNothing_5 (by decide) ?_
      refine x_icmp_ge (tgt := 41) hx hb ri2_4 (by decide) dX2_howManyOweNothing_7 (by decide) (fun c1 => ?_) (fun c1 => ?_)
      · skip
        refine x_iload_n hx hb hl 1 rfl dX2_howManyOweNothing_41 rfl ?_
        rw [eQ]
        exact x_iret hx hb hr hlk hW ri1_4 ⟨rfl, by omega⟩ dX2_howManyOweNothing_42
      refine x_iload_n hx hb hl 1 rfl dX2_howManyOweNothing_10 rfl ?_
      refine x_aload_n hx hb hl 0 rfl dX2_howManyOweNothing_11 rfl ?_
      refine x_iload_n hx hb hl 2 rfl dX2_howManyOweNothing_12 rfl ?_
      refine x_goi (x_runV (As := [.int (xJ i2_4)]) hx hb hml hown hT hE hW hl.1 (Or.inl (by omega)) (so_day0 h0 g hd _) rfl cf_X2_hasFelon wq862 wq53 wq860 (c_X2_hasFelon l D g T h0 s0 hW.2.1 d hd i2_4 ri2_4 p0) ⟨rfl, rfl, ⟨by decide, by decide⟩, ⟨by decide, by decide⟩⟩ rfl rfl (Nat.le_of_ble_eq_true rfl) dX2_howManyOweNothing_13) hW (fun x2 s3 H locs rx2 hp4 hW => ?_)
      obtain ⟨es3, hp4⟩ := hp4
      subst es3
      have ghp4 := hp4
      refine x_if_eq (tgt := 32) hx hb rx2 dX2_howManyOweNothing_16 (by decide) (fun c5 => ?_) (fun c5 => False.elim (by omega))
      refine x_iconst hx hb dX2_howManyOweNothing_32 ?_
      refine x_iadd hx hb dX2_howManyOweNothing_33 ?_
      refine x_nm (fun x6 ex6 => ?_)
      refine lv_istore_n (lv' := [(1, .int (xJ x6)), (0, .ref (h0 + d)), (2, .int (xJ i2_4))]) hx hb dX2_howManyOweNothing_34 rfl hl (by decide) rfl (fun ls hl => ?_)
      refine x_iinc (lv' := [(2, .int (xJ (i2_4 + 1))), (1, .int (xJ x6)), (0, .ref (h0 + d))]) hx hb hl 2 rfl dX2_howManyOweNothing_35 (by decide) rfl (fun ls hl => ?_)
      refine lv_goto (tgt := 4) hx hb dX2_howManyOweNothing_38 (by decide) ?_
      exact ih4 x6 (i2_4 + 1) H locs ls (by omega) (by omega) (by omega) (by omega) (by omega) hW (lv_sub hl [2, 1, 0] rfl)
  exact L4 ((10 - 0 : Int).toNat + 1) 0 0 H locs ls (by decide) (by decide) (by omega) (by omega) (Nat.lt_succ_self _) hW (lv_sub hl [2, 1, 0] rfl)
set_option maxHeartbeats 4000000 in
set_option maxRecDepth 100000 in
theorem c_X2_clearCounts (l : Launch) (D : va_G) (g : xG) (T : Nat × Nat × Nat) (h0 : Nat) (s0 : xS) (hσ : xRR s0) (d : Nat) (hd : xDay d) (p0 : 0 ≤ s0 d 7 ∧ s0 d 7 ≤ 9999) (p1 : 0 ≤ s0 d 8 ∧ s0 d 8 ≤ 65535) : Met l yX2_clearCounts (xws yX2_clearCounts cX2_clearCounts 1 none) { frames := 0, cells := 0, slots := 0, locals := 0 } (xP [.ref (h0 + d)] D g T h0 s0) (xQv D g h0 (fun τ => xFr (fun k => k = d) s0 τ ∧ (((0 ≤ τ d 7 ∧ τ d 7 ≤ 9999) ∧ (0 ≤ τ d 8 ∧ τ d 8 ≤ 65535) ∧ (τ d 9 = 0) ∧ (τ d 10 = 0) ∧ (τ d 11 = 0) ∧ True) ∧ (True)))) 0 0 (xA h0) := by
  refine x_met hσ (by decide) (Nat.le_of_ble_eq_true rfl) ?_
  intro p e s m args below meth c hx hb hr hml hown hT hlk hnm hE hW ls hl
  have hl : lv_has ls 1 [(0, .ref (h0 + d))] := hl
  obtain ⟨Q, eQ⟩ : ∃ Q, Q = MQ below (xQv D g h0 (fun τ => xFr (fun k => k = d) s0 τ ∧ (((0 ≤ τ d 7 ∧ τ d 7 ≤ 9999) ∧ (0 ≤ τ d 8 ∧ τ d 8 ≤ 65535) ∧ (τ d 9 = 0) ∧ (τ d 10 = 0) ∧ (τ d 11 = 0) ∧ True) ∧ (True)))) args s 0 0 (xA h0) := ⟨_, rfl⟩
  rw [← eQ]
  generalize hHe : ([] : List Loc) = locs at hW ⊢
  obtain ⟨H, eH⟩ : ∃ H, H = s.heap := ⟨_, rfl⟩
  rw [← eH] at hW ⊢
  have hF : xFr (fun k => k = d) s0 s0 := xFr.rf
  have hbd : (136 ≤ d ∧ d < 209) ∧ (d ≤ 146 ∨ 158 ≤ d) := by unfold xDay at hd; omega
  refine x_aload_n hx hb hl 0 rfl dX2_clearCounts_0 rfl ?_
  refine x_iconst hx hb dX2_clearCounts_1 ?_
  refine x_put (j := 9) hx hb hown hT hE hW cls_X2 (by omega) (fun σ => so_day0 h0 g hd σ) (by decide) (st_X2_9 h0 s0 d 0) (ln_X2_9 h0 _ _) wq406 rfl rfl rfl (by decide) dX2_clearCounts_2 (fun H locs s1 es1 hW => ?_)
  have q2 : 0 ≤ s1 d 7 ∧ s1 d 7 ≤ 9999 := by rw [es1, xU_j _ _ (by decide)]; exact p0
  have q3 : 0 ≤ s1 d 8 ∧ s1 d 8 ≤ 65535 := by rw [es1, xU_j _ _ (by decide)]; exact p1
  have q4 : s1 d 9 = 0 := by rw [es1, xU_s]
  have hF5 := hF.put es1 (by omega)
  refine x_aload_n hx hb hl 0 rfl dX2_clearCounts_5 rfl ?_
  refine x_iconst hx hb dX2_clearCounts_6 ?_
  refine x_put (j := 10) hx hb hown hT hE hW cls_X2 (by omega) (fun σ => so_day0 h0 g hd σ) (by decide) (st_X2_10 h0 s1 d 0) (ln_X2_10 h0 _ _) wq409 rfl rfl rfl (by decide) dX2_clearCounts_7 (fun H locs s6 es6 hW => ?_)
  have q7 : 0 ≤ s6 d 7 ∧ s6 d 7 ≤ 9999 := by rw [es6, xU_j _ _ (by decide)]; exact q2
  have q8 : 0 ≤ s6 d 8 ∧ s6 d 8 ≤ 65535 := by rw [es6, xU_j _ _ (by decide)]; exact q3
  have q9 : s6 d 9 = 0 := by rw [es6, xU_j _ _ (by decide)]; exact q4
  have q10 : s6 d 10 = 0 := by rw [es6, xU_s]
  have hF11 := hF5.put es6 (by omega)
  refine x_aload_n hx hb hl 0 rfl dX2_clearCounts_10 rfl ?_
  refine x_iconst hx hb dX2_clearCounts_11 ?_
  refine x_put (j := 11) hx hb hown hT hE hW cls_X2 (by omega) (fun σ => so_day0 h0 g hd σ) (by decide) (st_X2_11 h0 s6 d 0) (ln_X2_11 h0 _ _) wq412 rfl rfl rfl (by decide) dX2_clearCounts_12 (fun H locs s12 es12 hW => ?_)
  have q13 : 0 ≤ s12 d 7 ∧ s12 d 7 ≤ 9999 := by rw [es12, xU_j _ _ (by decide)]; exact q7
  have q14 : 0 ≤ s12 d 8 ∧ s12 d 8 ≤ 65535 := by rw [es12, xU_j _ _ (by decide)]; exact q8
  have q15 : s12 d 9 = 0 := by rw [es12, xU_j _ _ (by decide)]; exact q9
  have q16 : s12 d 10 = 0 := by rw [es12, xU_j _ _ (by decide)]; exact q10
  have q17 : s12 d 11 = 0 := by rw [es12, xU_s]
  have hF18 := hF11.put es12 (by omega)
  rw [eQ]
  exact x_vret hx hb hr hlk hW ⟨hF18, ⟨q13, q14, q15, q16, q17, trivial⟩, trivial⟩ dX2_clearCounts_15
