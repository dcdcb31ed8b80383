set_option maxHeartbeats 4000000 in
set_option maxRecDepth 100000 in
theorem c_X4_empty (l : Launch) (D : va_G) (g : xG) (T : Nat × Nat × Nat) (h0 : Nat) (s0 : xS) (hσ : xRR s0) (p0 : IC s0) : Met l yX4_empty (xws yX4_empty cX4_empty 1 none) { frames := 0, cells := 0, slots := 0, locals := 0 } (xP [.ref (h0 + 118)] D g T h0 s0) (xQv D g h0 (fun τ => xFr (fun k => k = 118) s0 τ ∧ (((IC τ) ∧ True) ∧ (True)))) 0 0 (xA h0) := by
  refine x_met hσ (by decide) (Nat.le_of_ble_eq_true rfl) ?_
  intro p e s m args below meth c hx hb hr hml hown hT hlk hnm hE hW ls hl
  have hl : lv_has ls 1 [(0, .ref (h0 + 118))] := hl
  obtain ⟨Q, eQ⟩ : ∃ Q, Q = MQ below (xQv D g h0 (fun τ => xFr (fun k => k = 118) s0 τ ∧ (((IC τ) ∧ True) ∧ (True)))) args s 0 0 (xA h0) := ⟨_, rfl⟩
  rw [← eQ]
  generalize hHe : ([] : List Loc) = locs at hW ⊢
  obtain ⟨H, eH⟩ : ∃ H, H = s.heap := ⟨_, rfl⟩
  rw [← eH] at hW ⊢
  have hF : xFr (fun k => k = 118) s0 s0 := xFr.rf
  have k1_1 : s0 1 1 = s0 1 1 := rfl
  refine x_aload_n hx hb hl 0 rfl dX4_empty_0 rfl ?_
  refine x_iconst hx hb dX4_empty_1 ?_
  refine x_put (j := 2) hx hb hown hT hE hW cls_X4 (by decide) (fun σ => so_118 h0 g σ) (by decide) (st_X4_2 h0 s0 118 0) (ln_X4_2 h0 _ _) wq253 rfl rfl rfl (by decide) dX4_empty_2 (fun H locs s1 es1 hW => ?_)
  have q2 : IC s1 := by rw [es1]; exact IC_L_118 p0 (by omega)
  have q3 : s1 1 1 = s0 1 1 := (show s1 1 1 = s0 1 1 from by rw [es1, xU_k _ _ _ (by omega)]).trans k1_1
  have hF4 := hF.put es1 (by omega)
  refine x_aload_n hx hb hl 0 rfl dX4_empty_5 rfl ?_
  refine x_iconst hx hb dX4_empty_6 ?_
  refine x_put (j := 6) hx hb hown hT hE hW cls_X4 (by decide) (fun σ => so_118 h0 g σ) (by decide) (st_X4_6 h0 s1 118 0) (ln_X4_6 h0 _ _) wq261 rfl rfl rfl (by decide) dX4_empty_7 (fun H locs s5 es5 hW => ?_)
  have q6 : IC s5 := by rw [es5]; exact IC_L_118 q2 (by omega)
  have q7 : s5 1 1 = s0 1 1 := (show s5 1 1 = s1 1 1 from by rw [es5, xU_k _ _ _ (by omega)]).trans q3
  have hF8 := hF4.put es5 (by omega)
  rw [eQ]
  exact x_vret hx hb hr hlk hW ⟨hF8, ⟨q6, trivial⟩, trivial⟩ dX4_empty_10
set_option maxHeartbeats 4000000 in
set_option maxRecDepth 100000 in
theorem c_X4_copyFrom (l : Launch) (D : va_G) (g : xG) (T : Nat × Nat × Nat) (h0 : Nat) (s0 : xS) (hσ : xRR s0) (p0 : IC s0) : Met l yX4_copyFrom (xws yX4_copyFrom cX4_copyFrom 2 none) { frames := 1, cells := 0, slots := 0, locals := 18 } (xP [.ref (h0 + 109), .ref (h0 + 118)] D g T h0 s0) (xQv D g h0 (fun τ => xFr (fun k => k = 109 ∨ k = 110 ∨ k = 111 ∨ k = 112 ∨ k = 113 ∨ k = 114) s0 τ ∧ (((IC τ) ∧ True) ∧ (True)))) 0 0 (xA h0) := by
  refine x_met hσ (by decide) (Nat.le_of_ble_eq_true rfl) ?_
  intro p e s m args below meth c hx hb hr hml hown hT hlk hnm hE hW ls hl
  have hl : lv_has ls 2 [(0, .ref (h0 + 109)), (1, .ref (h0 + 118))] := hl
  obtain ⟨Q, eQ⟩ : ∃ Q, Q = MQ below (xQv D g h0 (fun τ => xFr (fun k => k = 109 ∨ k = 110 ∨ k = 111 ∨ k = 112 ∨ k = 113 ∨ k = 114) s0 τ ∧ (((IC τ) ∧ True) ∧ (True)))) args s 0 0 (xA h0) := ⟨_, rfl⟩
  rw [← eQ]
  generalize hHe : ([] : List Loc) = locs at hW ⊢
  obtain ⟨H, eH⟩ : ∃ H, H = s.heap := ⟨_, rfl⟩
  rw [← eH] at hW ⊢
  have hF : xFr (fun k => k = 109 ∨ k = 110 ∨ k = 111 ∨ k = 112 ∨ k = 113 ∨ k = 114) s0 s0 := xFr.rf
  have k1_1 : s0 1 1 = s0 1 1 := rfl
  refine x_aload_n hx hb hl 1 rfl dX4_copyFrom_0 rfl ?_
  refine x_get (j := 0) (v := .ref (h0 + 119)) hx hb hown hT hE hW cls_X4 (Or.inl (by decide)) (so_118 h0 g _) (by decide) rfl wq251 dX4_copyFrom_1 ?_
  refine x_iconst hx hb dX4_copyFrom_4 ?_
  refine x_aload_n hx hb hl 0 rfl dX4_copyFrom_5 rfl ?_
  refine x_get (j := 0) (v := .ref (h0 + 110)) hx hb hown hT hE hW cls_X4 (Or.inl (by decide)) (so_109 h0 g _) (by decide) rfl wq251 dX4_copyFrom_6 ?_
  refine x_iconst hx hb dX4_copyFrom_9 ?_
  refine x_sipush hx hb dX4_copyFrom_10 (by decide) ?_
  refine x_copyi (ns := 300) (nd := 300) hx hb hml hl.1 hown hT hE hW wq698 wq604 wq603 wq181 (Or.inl (by decide)) (sa_119 h0 g _) (by decide) (fun σ => sa_110 h0 g σ) (by omega) ⟨by decide, Nat.le_of_ble_eq_true rfl⟩ dX4_copyFrom_13 (fun H locs s1 es1 hW => ?_)
  have q2 : IC s1 := IC_f (fun k hk => by rw [es1]; exact xC_k _ _ _ (fun q => hk (q ▸ (by decide)))) p0
  have q3 : s1 1 1 = s0 1 1 := (show s1 1 1 = s0 1 1 from by rw [es1, xC_k _ _ _ (by omega)]).trans k1_1
  have hF4 := hF.cpy es1 (by omega)
  refine x_aload_n hx hb hl 1 rfl dX4_copyFrom_16 rfl ?_
  refine x_get (j := 1) (v := .ref (h0 + 120)) hx hb hown hT hE hW cls_X4 (Or.inl (by decide)) (so_118 h0 g _) (by decide) rfl wq252 dX4_copyFrom_17 ?_
  refine x_iconst hx hb dX4_copyFrom_20 ?_
  refine x_aload_n hx hb hl 0 rfl dX4_copyFrom_21 rfl ?_
  refine x_get (j := 1) (v := .ref (h0 + 111)) hx hb hown hT hE hW cls_X4 (Or.inl (by decide)) (so_109 h0 g _) (by decide) rfl wq252 dX4_copyFrom_22 ?_
  refine x_iconst hx hb dX4_copyFrom_25 ?_
  refine x_sipush hx hb dX4_copyFrom_26 (by decide) ?_
  refine x_copyi (ns := 300) (nd := 300) hx hb hml hl.1 hown hT hE hW wq698 wq604 wq603 wq181 (Or.inl (by decide)) (sa_120 h0 g _) (by decide) (fun σ => sa_111 h0 g σ) (by omega) ⟨by decide, Nat.le_of_ble_eq_true rfl⟩ dX4_copyFrom_29 (fun H locs s5 es5 hW => ?_)
  have q6 : IC s5 := IC_f (fun k hk => by rw [es5]; exact xC_k _ _ _ (fun q => hk (q ▸ (by decide)))) q2
  have q7 : s5 1 1 = s0 1 1 := (show s5 1 1 = s1 1 1 from by rw [es5, xC_k _ _ _ (by omega)]).trans q3
  have hF8 := hF4.cpy es5 (by omega)
  refine x_aload_n hx hb hl 0 rfl dX4_copyFrom_32 rfl ?_
  refine x_aload_n hx hb hl 1 rfl dX4_copyFrom_33 rfl ?_
  refine x_get (j := 2) (v := .int (xJ (s5 118 2))) hx hb hown hT hE hW cls_X4 (Or.inl (by decide)) (so_118 h0 g _) (by decide) rfl wq253 dX4_copyFrom_34 ?_
  refine x_rd hW (fun x9 ex9 rx9 => ?_)
  have bx9 : 0 ≤ x9 ∧ x9 ≤ 300 := by rw [ex9]; exact (IC.l2 q6).1
  refine x_put (j := 2) hx hb hown hT hE hW cls_X4 (by decide) (fun σ => so_109 h0 g σ) (by decide) (st_X4_2 h0 s5 109 x9) (ln_X4_2 h0 _ _) wq253 rfl rfl rfl rx9 dX4_copyFrom_37 (fun H locs s10 es10 hW => ?_)
  have q11 : IC s10 := by rw [es10]; exact IC_L_109 q6 (by omega)
  have q12 : s10 1 1 = s0 1 1 := (show s10 1 1 = s5 1 1 from by rw [es10, xU_k _ _ _ (by omega)]).trans q7
  have hF13 := hF8.put es10 (by omega)
  refine x_aload_n hx hb hl 1 rfl dX4_copyFrom_40 rfl ?_
  refine x_get (j := 3) (v := .ref (h0 + 121)) hx hb hown hT hE hW cls_X4 (Or.inl (by decide)) (so_118 h0 g _) (by decide) rfl wq255 dX4_copyFrom_41 ?_
  refine x_iconst hx hb dX4_copyFrom_44 ?_
  refine x_aload_n hx hb hl 0 rfl dX4_copyFrom_45 rfl ?_
  refine x_get (j := 3) (v := .ref (h0 + 112)) hx hb hown hT hE hW cls_X4 (Or.inl (by decide)) (so_109 h0 g _) (by decide) rfl wq255 dX4_copyFrom_46 ?_
  refine x_iconst hx hb dX4_copyFrom_49 ?_
  refine x_bipush hx hb dX4_copyFrom_50 (by decide) ?_
  refine x_copyi (ns := 16) (nd := 16) hx hb hml hl.1 hown hT hE hW wq698 wq604 wq603 wq181 (Or.inl (by decide)) (sa_121 h0 g _) (by decide) (fun σ => sa_112 h0 g σ) (by omega) ⟨by decide, Nat.le_of_ble_eq_true rfl⟩ dX4_copyFrom_52 (fun H locs s14 es14 hW => ?_)
  have q15 : IC s14 := IC_f (fun k hk => by rw [es14]; exact xC_k _ _ _ (fun q => hk (q ▸ (by decide)))) q11
  have q16 : s14 1 1 = s0 1 1 := (show s14 1 1 = s10 1 1 from by rw [es14, xC_k _ _ _ (by omega)]).trans q12
  have hF17 := hF13.cpy es14 (by omega)
  refine x_aload_n hx hb hl 1 rfl dX4_copyFrom_55 rfl ?_
  refine x_get (j := 4) (v := .ref (h0 + 122)) hx hb hown hT hE hW cls_X4 (Or.inl (by decide)) (so_118 h0 g _) (by decide) rfl wq257 dX4_copyFrom_56 ?_
  refine x_iconst hx hb dX4_copyFrom_59 ?_
  refine x_aload_n hx hb hl 0 rfl dX4_copyFrom_60 rfl ?_
  refine x_get (j := 4) (v := .ref (h0 + 113)) hx hb hown hT hE hW cls_X4 (Or.inl (by decide)) (so_109 h0 g _) (by decide) rfl wq257 dX4_copyFrom_61 ?_
  refine x_iconst hx hb dX4_copyFrom_64 ?_
  refine x_bipush hx hb dX4_copyFrom_65 (by decide) ?_
  refine x_copyi (ns := 16) (nd := 16) hx hb hml hl.1 hown hT hE hW wq698 wq604 wq603 wq181 (Or.inl (by decide)) (sa_122 h0 g _) (by decide) (fun σ => sa_113 h0 g σ) (by omega) ⟨by decide, Nat.le_of_ble_eq_true rfl⟩ dX4_copyFrom_67 (fun H locs s18 es18 hW => ?_)
  have q19 : IC s18 := IC_f (fun k hk => by rw [es18]; exact xC_k _ _ _ (fun q => hk (q ▸ (by decide)))) q15
  have q20 : s18 1 1 = s0 1 1 := (show s18 1 1 = s14 1 1 from by rw [es18, xC_k _ _ _ (by omega)]).trans q16
  have hF21 := hF17.cpy es18 (by omega)
  refine x_aload_n hx hb hl 1 rfl dX4_copyFrom_70 rfl ?_
  refine x_get (j := 5) (v := .ref (h0 + 123)) hx hb hown hT hE hW cls_X4 (Or.inl (by decide)) (so_118 h0 g _) (by decide) rfl wq259 dX4_copyFrom_71 ?_
  refine x_iconst hx hb dX4_copyFrom_74 ?_
  refine x_aload_n hx hb hl 0 rfl dX4_copyFrom_75 rfl ?_
  refine x_get (j := 5) (v := .ref (h0 + 114)) hx hb hown hT hE hW cls_X4 (Or.inl (by decide)) (so_109 h0 g _) (by decide) rfl wq259 dX4_copyFrom_76 ?_
  refine x_iconst hx hb dX4_copyFrom_79 ?_
  refine x_bipush hx hb dX4_copyFrom_80 (by decide) ?_
  refine x_copyi (ns := 16) (nd := 16) hx hb hml hl.1 hown hT hE hW wq698 wq604 wq603 wq181 (Or.inl (by decide)) (sa_123 h0 g _) (by decide) (fun σ => sa_114 h0 g σ) (by omega) ⟨by decide, Nat.le_of_ble_eq_true rfl⟩ dX4_copyFrom_82 (fun H locs s22 es22 hW => ?_)
  have q23 : IC s22 := IC_f (fun k hk => by rw [es22]; exact xC_k _ _ _ (fun q => hk (q ▸ (by decide)))) q19
  have q24 : s22 1 1 = s0 1 1 := (show s22 1 1 = s18 1 1 from by rw [es22, xC_k _ _ _ (by omega)]).trans q20
  have hF25 := hF21.cpy es22 (by omega)
  refine x_aload_n hx hb hl 0 rfl dX4_copyFrom_85 rfl ?_
  refine x_aload_n hx hb hl 1 rfl dX4_copyFrom_86 rfl ?_
  refine x_get (j := 6) (v := .int (xJ (s22 118 6))) hx hb hown hT hE hW cls_X4 (Or.inl (by decide)) (so_118 h0 g _) (by decide) rfl wq261 dX4_copyFrom_87 ?_
  refine x_rd hW (fun x26 ex26 rx26 => ?_)
  have bx26 : 0 ≤ x26 ∧ x26 ≤ 16 := by rw [ex26]; exact (IC.l2 q23).2
  refine x_put (j := 6) hx hb hown hT hE hW cls_X4 (by decide) (fun σ => so_109 h0 g σ) (by decide) (st_X4_6 h0 s22 109 x26) (ln_X4_6 h0 _ _) wq261 rfl rfl rfl rx26 dX4_copyFrom_90 (fun H locs s27 es27 hW => ?_)
  have q28 : IC s27 := by rw [es27]; exact IC_L_109 q23 (by omega)
  have q29 : s27 1 1 = s0 1 1 := (show s27 1 1 = s22 1 1 from by rw [es27, xU_k _ _ _ (by omega)]).trans q24
  have hF30 := hF25.put es27 (by omega)
  rw [eQ]
  exact x_vret hx hb hr hlk hW ⟨hF30, ⟨q28, trivial⟩, trivial⟩ dX4_copyFrom_93
set_option maxHeartbeats 4000000 in
set_option maxRecDepth 100000 in
theorem c_X4_put (l : Launch) (D : va_G) (g : xG) (T : Nat × Nat × Nat) (h0 : Nat) (s0 : xS) (hσ : xRR s0) (a : Int) (ra : xR a) (b : Int) (rb : xR b) (p0 : IC s0) : Met l yX4_put (xws yX4_put cX4_put 4 (some .int)) { frames := 0, cells := 0, slots := 0, locals := 0 } (xP [.ref (h0 + 118), .int (xJ a), .int (xJ b)] D g T h0 s0) (xQi D g h0 (fun r τ => xFr (fun k => k = 118 ∨ k = 119 ∨ k = 120) s0 τ ∧ (((IC τ) ∧ True) ∧ (True)))) 0 0 (xA h0) := by
  refine x_met hσ (by decide) (Nat.le_of_ble_eq_true rfl) ?_
  intro p e s m args below meth c hx hb hr hml hown hT hlk hnm hE hW ls hl
  have hl : lv_has ls 4 [(0, .ref (h0 + 118)), (1, .int (xJ a)), (2, .int (xJ b))] := hl
  obtain ⟨Q, eQ⟩ : ∃ Q, Q = MQ below (xQi D g h0 (fun r τ => xFr (fun k => k = 118 ∨ k = 119 ∨ k = 120) s0 τ ∧ (((IC τ) ∧ True) ∧ (True)))) args s 0 0 (xA h0) := ⟨_, rfl⟩
  rw [← eQ]
  generalize hHe : ([] : List Loc) = locs at hW ⊢
  obtain ⟨H, eH⟩ : ∃ H, H = s.heap := ⟨_, rfl⟩
  rw [← eH] at hW ⊢
  have hF : xFr (fun k => k = 118 ∨ k = 119 ∨ k = 120) s0 s0 := xFr.rf
  have k1_1 : s0 1 1 = s0 1 1 := rfl
  refine x_aload_n hx hb hl 0 rfl dX4_put_0 rfl ?_
  refine x_get (j := 2) (v := .int (xJ (s0 118 2))) hx hb hown hT hE hW cls_X4 (Or.inl (by decide)) (so_118 h0 g _) (by decide) rfl wq253 dX4_put_1 ?_
  refine x_rd hW (fun x1 ex1 rx1 => ?_)
  have bx1 : 0 ≤ x1 ∧ x1 ≤ 300 := by rw [ex1]; exact (IC.l2 p0).1
  have q2 : s0 118 2 = x1 := ex1.symm
  refine lv_istore_n (lv' := [(3, .int (xJ x1)), (0, .ref (h0 + 118)), (1, .int (xJ a)), (2, .int (xJ b))]) hx hb dX4_put_4 rfl hl (by decide) rfl (fun ls hl => ?_)
  refine x_iload_n hx hb hl 0 rfl dX4_put_5 rfl ?_
  refine x_if_lt (tgt := 40) hx hb rx1 dX4_put_6 (by decide) (fun c3 => ?_) (fun c3 => ?_)
  · skip
    refine x_iload_n hx hb hl 0 rfl dX4_put_40 rfl ?_
    rw [eQ]
    exact x_iret hx hb hr hlk hW rx1 ⟨hF, ⟨p0, trivial⟩, trivial⟩ dX4_put_41
  refine x_iload_n hx hb hl 0 rfl dX4_put_9 rfl ?_
  refine x_sipush hx hb dX4_put_10 (by decide) ?_
  refine x_icmp_ge (tgt := 40) hx hb rx1 (by decide) dX4_put_13 (by decide) (fun c4 => ?_) (fun c4 => ?_)
  · skip
    refine x_iload_n hx hb hl 0 rfl dX4_put_40 rfl ?_
    rw [eQ]
    exact x_iret hx hb hr hlk hW rx1 ⟨hF, ⟨p0, trivial⟩, trivial⟩ dX4_put_41
  refine x_aload_n hx hb hl 1 rfl dX4_put_16 rfl ?_
  refine x_get (j := 0) (v := .ref (h0 + 119)) hx hb hown hT hE hW cls_X4 (Or.inl (by decide)) (so_118 h0 g _) (by decide) rfl wq251 dX4_put_17 ?_
  refine x_iload_n hx hb hl 0 rfl dX4_put_20 rfl ?_
  refine x_iload_n hx hb hl 2 rfl dX4_put_21 rfl ?_
  refine x_iast hx hb hE hW (by decide) (fun σ => sa_119 h0 g σ) (by omega) (by decide) ra dX4_put_22 (fun H locs s5 es5 hW => ?_)
  have q6 : IC s5 := by rw [es5]; exact IC_o (by decide) p0
  have q7 : s5 1 1 = s0 1 1 := (show s5 1 1 = s0 1 1 from by rw [es5, xU_k _ _ _ (by omega)]).trans k1_1
  have q8 : s5 118 2 = x1 := (show s5 118 2 = s0 118 2 from by rw [es5, xU_k _ _ _ (by omega)]).trans q2
  have hF9 := hF.put es5 (by omega)
  refine x_aload_n hx hb hl 1 rfl dX4_put_23 rfl ?_
  refine x_get (j := 1) (v := .ref (h0 + 120)) hx hb hown hT hE hW cls_X4 (Or.inl (by decide)) (so_118 h0 g _) (by decide) rfl wq252 dX4_put_24 ?_
  refine x_iload_n hx hb hl 0 rfl dX4_put_27 rfl ?_
  refine x_iload_n hx hb hl 3 rfl dX4_put_28 rfl ?_
  refine x_iast hx hb hE hW (by decide) (fun σ => sa_120 h0 g σ) (by omega) (by decide) rb dX4_put_29 (fun H locs s10 es10 hW => ?_)
  have q11 : IC s10 := by rw [es10]; exact IC_o (by decide) q6
  have q12 : s10 1 1 = s0 1 1 := (show s10 1 1 = s5 1 1 from by rw [es10, xU_k _ _ _ (by omega)]).trans q7
  have q13 : s10 118 2 = x1 := (show s10 118 2 = s5 118 2 from by rw [es10, xU_k _ _ _ (by omega)]).trans q8
  have hF14 := hF9.put es10 (by omega)
  refine x_aload_n hx hb hl 1 rfl dX4_put_30 rfl ?_
  refine lv_dup hx hb dX4_put_31 rfl ?_
  refine x_get (j := 2) (v := .int (xJ (s10 118 2))) hx hb hown hT hE hW cls_X4 (Or.inl (by decide)) (so_118 h0 g _) (by decide) rfl wq253 dX4_put_32 ?_
  refine x_rd hW (fun x15 ex15 rx15 => ?_)
  have bx15 : 0 ≤ x15 ∧ x15 ≤ 300 := by rw [ex15]; exact (IC.l2 q11).1
  have fx15 : x15 = x1 := ex15.trans q13
  refine x_iconst hx hb dX4_put_35 ?_
  refine x_iadd hx hb dX4_put_36 ?_
  refine x_put (j := 2) hx hb hown hT hE hW cls_X4 (by decide) (fun σ => so_118 h0 g σ) (by decide) (st_X4_2 h0 s10 118 (x15 + 1)) (ln_X4_2 h0 _ _) wq253 rfl rfl rfl (by omega) dX4_put_37 (fun H locs s16 es16 hW => ?_)
  have q17 : IC s16 := by rw [es16]; exact IC_L_118 q11 (by omega)
  have q18 : s16 1 1 = s0 1 1 := (show s16 1 1 = s10 1 1 from by rw [es16, xU_k _ _ _ (by omega)]).trans q12
  have q19 : s16 118 2 = (x15 + 1) := by rw [es16, xU_s]
  have hF20 := hF14.put es16 (by omega)
  refine x_iload_n hx hb hl 0 rfl dX4_put_40 rfl ?_
  rw [eQ]
  exact x_iret hx hb hr hlk hW rx1 ⟨hF20, ⟨q17, trivial⟩, trivial⟩ dX4_put_41
set_option maxHeartbeats 4000000 in
set_option maxRecDepth 100000 in
theorem c_X4_landSkip (l : Launch) (D : va_G) (g : xG) (T : Nat × Nat × Nat) (h0 : Nat) (s0 : xS) (hσ : xRR s0) (a : Int) (ra : xR a) (p0 : IC s0) : Met l yX4_landSkip (xws yX4_landSkip cX4_landSkip 2 none) { frames := 0, cells := 0, slots := 0, locals := 0 } (xP [.ref (h0 + 118), .int (xJ a)] D g T h0 s0) (xQv D g h0 (fun τ => xFr (fun k => k = 120) s0 τ ∧ (((IC τ) ∧ True) ∧ (True)))) 0 0 (xA h0) := by
  refine x_met hσ (by decide) (Nat.le_of_ble_eq_true rfl) ?_
  intro p e s m args below meth c hx hb hr hml hown hT hlk hnm hE hW ls hl
  have hl : lv_has ls 2 [(0, .ref (h0 + 118)), (1, .int (xJ a))] := hl
  obtain ⟨Q, eQ⟩ : ∃ Q, Q = MQ below (xQv D g h0 (fun τ => xFr (fun k => k = 120) s0 τ ∧ (((IC τ) ∧ True) ∧ (True)))) args s 0 0 (xA h0) := ⟨_, rfl⟩
  rw [← eQ]
  generalize hHe : ([] : List Loc) = locs at hW ⊢
  obtain ⟨H, eH⟩ : ∃ H, H = s.heap := ⟨_, rfl⟩
  rw [← eH] at hW ⊢
  have hF : xFr (fun k => k = 120) s0 s0 := xFr.rf
  have k1_1 : s0 1 1 = s0 1 1 := rfl
  refine x_iload_n hx hb hl 1 rfl dX4_landSkip_0 rfl ?_
  refine x_if_lt (tgt := 21) hx hb ra dX4_landSkip_1 (by decide) (fun c1 => ?_) (fun c1 => ?_)
  · skip
    rw [eQ]
    exact x_vret hx hb hr hlk hW ⟨hF, ⟨p0, trivial⟩, trivial⟩ dX4_landSkip_21
  refine x_iload_n hx hb hl 1 rfl dX4_landSkip_4 rfl ?_
  refine x_sipush hx hb dX4_landSkip_5 (by decide) ?_
  refine x_icmp_ge (tgt := 21) hx hb ra (by decide) dX4_landSkip_8 (by decide) (fun c2 => ?_) (fun c2 => ?_)
  · skip
    rw [eQ]
    exact x_vret hx hb hr hlk hW ⟨hF, ⟨p0, trivial⟩, trivial⟩ dX4_landSkip_21
  refine x_aload_n hx hb hl 0 rfl dX4_landSkip_11 rfl ?_
  refine x_get (j := 1) (v := .ref (h0 + 120)) hx hb hown hT hE hW cls_X4 (Or.inl (by decide)) (so_118 h0 g _) (by decide) rfl wq252 dX4_landSkip_12 ?_
  refine x_iload_n hx hb hl 1 rfl dX4_landSkip_15 rfl ?_
  refine x_aload_n hx hb hl 0 rfl dX4_landSkip_16 rfl ?_
  refine x_get (j := 2) (v := .int (xJ (s0 118 2))) hx hb hown hT hE hW cls_X4 (Or.inl (by decide)) (so_118 h0 g _) (by decide) rfl wq253 dX4_landSkip_17 ?_
  refine x_rd hW (fun x3 ex3 rx3 => ?_)
  have bx3 : 0 ≤ x3 ∧ x3 ≤ 300 := by rw [ex3]; exact (IC.l2 p0).1
  refine x_iast hx hb hE hW (by decide) (fun σ => sa_120 h0 g σ) (by omega) (by decide) rx3 dX4_landSkip_20 (fun H locs s4 es4 hW => ?_)
  have q5 : IC s4 := by rw [es4]; exact IC_o (by decide) p0
  have q6 : s4 1 1 = s0 1 1 := (show s4 1 1 = s0 1 1 from by rw [es4, xU_k _ _ _ (by omega)]).trans k1_1
  have hF7 := hF.put es4 (by omega)
  rw [eQ]
  exact x_vret hx hb hr hlk hW ⟨hF7, ⟨q5, trivial⟩, trivial⟩ dX4_landSkip_21
set_option maxHeartbeats 4000000 in
set_option maxRecDepth 100000 in
theorem c_X4_placeOfLetter (l : Launch) (D : va_G) (g : xG) (T : Nat × Nat × Nat) (h0 : Nat) (s0 : xS) (hσ : xRR s0) (x : Int) (rx : xR x) : Met l yX4_placeOfLetter (xws yX4_placeOfLetter cX4_placeOfLetter 2 (some .int)) { frames := 0, cells := 0, slots := 0, locals := 0 } (xP [.int (xJ x)] D g T h0 s0) (xQi D g h0 (fun r τ => s0 = τ ∧ (r = -1 ∨ (0 ≤ r ∧ r < 7 ∧ 98 ≤ x)))) 0 0 (xA h0) := by
  refine x_met hσ (by decide) (Nat.le_of_ble_eq_true rfl) ?_
  intro p e s m args below meth c hx hb hr hml hown hT hlk hnm hE hW ls hl
  have hl : lv_has ls 2 [(0, .int (xJ x))] := hl
  obtain ⟨Q, eQ⟩ : ∃ Q, Q = MQ below (xQi D g h0 (fun r τ => s0 = τ ∧ (r = -1 ∨ (0 ≤ r ∧ r < 7 ∧ 98 ≤ x)))) args s 0 0 (xA h0) := ⟨_, rfl⟩
  rw [← eQ]
  generalize hHe : ([] : List Loc) = locs at hW ⊢
  obtain ⟨H, eH⟩ : ∃ H, H = s.heap := ⟨_, rfl⟩
  rw [← eH] at hW ⊢
  refine x_iconst hx hb dX4_placeOfLetter_0 ?_
  refine lv_istore_n (lv' := [(1, .int (xJ 0)), (0, .int (xJ x))]) hx hb dX4_placeOfLetter_1 rfl hl (by decide) rfl (fun ls hl => ?_)
  have L2 : ∀ (fu : Nat) (i1_2 : Int) (ls : Array Slot), (xR i1_2) → (0 ≤ i1_2) → (7 - i1_2).toNat < fu → lv_has ls 2 [(0, .int (xJ x)), (1, .int (xJ i1_2))] → W p l e { frames := 0, cells := 0, slots := 0, locals := 0 } s m args below meth c H locs 0 0 Q (F0 m 2 ls []) := by
    intro fu
    induction fu with
    | zero => intro i1_2 ls ri1_2 v2_0 hm; exact absurd hm (Nat.not_lt_zero _)
    | succ fu ih2 =>
      intro i1_2 ls ri1_2 v2_0 hm  hl
      refine x_iload_n hx hb hl 1 rfl dX4_placeOfLetter_2 rfl ?_
      refine va_gets hx hb hE.2.2.2.2.1 hW.2.2 hown (hT _ wq249) (fun _ h9 => h9) dX4_placeOfLetter_3 ?_
      refine va_tlen (v := xJ 7) hx hb hE.2.2.2.2.2 hW.2.2 rfl dX4_placeOfLetter_6 ?_
      refine x_icmp_ge (tgt := 27) hx hb ri1_2 (by decide) dX4_placeOfLetter_7 (by decide) (fun c1 => ?_) (fun c1 => ?_)
      · skip
        refine x_iconst hx hb dX4_placeOfLetter_27 ?_
        rw [eQ]
        exact x_iret hx hb hr hlk hW (by decide) ⟨rfl, by omega⟩ dX4_placeOfLetter_28
      refine va_gets hx hb hE.2.2.2.2.1 hW.2.2 hown (hT _ wq249) (fun _ h9 => h9) dX4_placeOfLetter_10 ?_
      refine x_iload_n hx hb hl 1 rfl dX4_placeOfLetter_13 rfl ?_
      refine x_lt hx hb hE hW (by omega) dX4_placeOfLetter_14 ?_
      refine x_nm (fun x2 ex2 => ?_)
      have rx2 : -1 ≤ x2 ∧ x2 ≤ 119 := by rw [ex2]; exact xlt_in _
      have lx2 : 98 ≤ x2 := by rw [ex2]; exact xlt_lo _ (by omega)
      refine x_iload_n hx hb hl 0 rfl dX4_placeOfLetter_15 rfl ?_
      refine x_icmp_ne (tgt := 21) hx hb (by omega) rx dX4_placeOfLetter_16 (by decide) (fun c3 => ?_) (fun c3 => ?_)
      · skip
        refine x_iinc (lv' := [(1, .int (xJ (i1_2 + 1))), (0, .int (xJ x))]) hx hb hl 1 rfl dX4_placeOfLetter_21 (by decide) rfl (fun ls hl => ?_)
        refine lv_goto (tgt := 2) hx hb dX4_placeOfLetter_24 (by decide) ?_
        exact ih2 (i1_2 + 1) ls (by omega) (by omega) (by omega)  (lv_sub hl [1, 0] rfl)
      refine x_iload_n hx hb hl 1 rfl dX4_placeOfLetter_19 rfl ?_
      rw [eQ]
      exact x_iret hx hb hr hlk hW ri1_2 ⟨rfl, by omega⟩ dX4_placeOfLetter_20
  exact L2 ((7 - 0 : Int).toNat + 1) 0 ls (by decide) (by omega) (Nat.lt_succ_self _)  (lv_sub hl [1, 0] rfl)
set_option maxHeartbeats 4000000 in
set_option maxRecDepth 100000 in
theorem c_X4_toldAt (l : Launch) (D : va_G) (g : xG) (T : Nat × Nat × Nat) (h0 : Nat) (s0 : xS) (hσ : xRR s0) (x : Int) (rx : xR x) (p0 : IC s0) : Met l yX4_toldAt (xws yX4_toldAt cX4_toldAt 2 (some .int)) { frames := 0, cells := 0, slots := 0, locals := 0 } (xP [.ref (h0 + 109), .int (xJ x)] D g T h0 s0) (xQi D g h0 (fun r τ => s0 = τ ∧ (True))) 0 0 (xA h0) := by
  refine x_met hσ (by decide) (Nat.le_of_ble_eq_true rfl) ?_
  intro p e s m args below meth c hx hb hr hml hown hT hlk hnm hE hW ls hl
  have hl : lv_has ls 2 [(0, .ref (h0 + 109)), (1, .int (xJ x))] := hl
  obtain ⟨Q, eQ⟩ : ∃ Q, Q = MQ below (xQi D g h0 (fun r τ => s0 = τ ∧ (True))) args s 0 0 (xA h0) := ⟨_, rfl⟩
  rw [← eQ]
  generalize hHe : ([] : List Loc) = locs at hW ⊢
  obtain ⟨H, eH⟩ : ∃ H, H = s.heap := ⟨_, rfl⟩
  rw [← eH] at hW ⊢
  have k1_1 : s0 1 1 = s0 1 1 := rfl
  refine x_iload_n hx hb hl 1 rfl dX4_toldAt_0 rfl ?_
  refine x_if_lt (tgt := 22) hx hb rx dX4_toldAt_1 (by decide) (fun c1 => ?_) (fun c1 => ?_)
  · skip
    refine x_iconst hx hb dX4_toldAt_22 ?_
    rw [eQ]
    exact x_iret hx hb hr hlk hW (by decide) ⟨rfl, trivial⟩ dX4_toldAt_23
  refine x_iload_n hx hb hl 1 rfl dX4_toldAt_4 rfl ?_
  refine x_aload_n hx hb hl 0 rfl dX4_toldAt_5 rfl ?_
  refine x_get (j := 7) (v := .ref (h0 + 115)) hx hb hown hT hE hW cls_X4 (Or.inl (by decide)) (so_109 h0 g _) (by decide) rfl wq264 dX4_toldAt_6 ?_
  refine x_alen (n := 7) (t0 := 0) hx hb hE hW (Or.inl (by decide)) (sa_115 h0 g _) rfl rfl dX4_toldAt_9 ?_
  refine x_icmp_ge (tgt := 22) hx hb rx (by decide) dX4_toldAt_10 (by decide) (fun c2 => ?_) (fun c2 => ?_)
  · skip
    refine x_iconst hx hb dX4_toldAt_22 ?_
    rw [eQ]
    exact x_iret hx hb hr hlk hW (by decide) ⟨rfl, trivial⟩ dX4_toldAt_23
  refine x_aload_n hx hb hl 0 rfl dX4_toldAt_13 rfl ?_
  refine x_get (j := 7) (v := .ref (h0 + 115)) hx hb hown hT hE hW cls_X4 (Or.inl (by decide)) (so_109 h0 g _) (by decide) rfl wq264 dX4_toldAt_14 ?_
  refine x_iload_n hx hb hl 1 rfl dX4_toldAt_17 rfl ?_
  refine x_iald hx hb hE hW (Or.inl (by decide)) (sa_115 h0 g _) (by omega) (by decide) dX4_toldAt_18 ?_
  refine x_rd hW (fun x3 ex3 rx3 => ?_)
  refine lv_goto (tgt := 23) hx hb dX4_toldAt_19 (by decide) ?_
  rw [eQ]
  exact x_iret hx hb hr hlk hW rx3 ⟨rfl, trivial⟩ dX4_toldAt_23
set_option maxHeartbeats 4000000 in
set_option maxRecDepth 100000 in
theorem c_X4_joined (l : Launch) (D : va_G) (g : xG) (T : Nat × Nat × Nat) (h0 : Nat) (s0 : xS) (hσ : xRR s0) (q : Int) (rq : xR q) (a : Int) (ra : xR a) (b : Int) (rb : xR b) : Met l yX4_joined (xws yX4_joined cX4_joined 3 (some .int)) { frames := 0, cells := 0, slots := 0, locals := 0 } (xP [.int (xJ q), .int (xJ a), .int (xJ b)] D g T h0 s0) (xQi D g h0 (fun r τ => s0 = τ ∧ (True))) 0 0 (xA h0) := by
  refine x_met hσ (by decide) (Nat.le_of_ble_eq_true rfl) ?_
  intro p e s m args below meth c hx hb hr hml hown hT hlk hnm hE hW ls hl
  have hl : lv_has ls 3 [(0, .int (xJ q)), (1, .int (xJ a)), (2, .int (xJ b))] := hl
  obtain ⟨Q, eQ⟩ : ∃ Q, Q = MQ below (xQi D g h0 (fun r τ => s0 = τ ∧ (True))) args s 0 0 (xA h0) := ⟨_, rfl⟩
  rw [← eQ]
  generalize hHe : ([] : List Loc) = locs at hW ⊢
  obtain ⟨H, eH⟩ : ∃ H, H = s.heap := ⟨_, rfl⟩
  rw [← eH] at hW ⊢
  refine x_iload_n hx hb hl 0 rfl dX4_joined_0 rfl ?_
  rcases (show (q ≠ 37 ∧ q ≠ 42 ∧ q ≠ 43 ∧ q ≠ 45 ∧ q ≠ 47 ∧ q ≠ 60 ∧ q ≠ 62) ∨ q = 37 ∨ q = 42 ∨ q = 43 ∨ q = 45 ∨ q = 47 ∨ q = 60 ∨ q = 62 from by omega) with c1 | c1 | c1 | c1 | c1 | c1 | c1 | c1
  · refine x_look (tgt := 126) (off := 125) hx hb rq dX4_joined_1 rfl (xlk_n (by simp; omega)) (by decide) ?_
    refine x_iload_n hx hb hl 1 rfl dX4_joined_126 rfl ?_
    refine x_iload_n hx hb hl 2 rfl dX4_joined_127 rfl ?_
    refine x_icmp_ne (tgt := 135) hx hb ra rb dX4_joined_128 (by decide) (fun c2 => ?_) (fun c2 => ?_)
    · skip
      refine x_iconst hx hb dX4_joined_135 ?_
      rw [eQ]
      exact x_iret hx hb hr hlk hW (by decide) ⟨rfl, trivial⟩ dX4_joined_136
    refine x_iconst hx hb dX4_joined_131 ?_
    refine lv_goto (tgt := 136) hx hb dX4_joined_132 (by decide) ?_
    rw [eQ]
    exact x_iret hx hb hr hlk hW (by decide) ⟨rfl, trivial⟩ dX4_joined_136
  · refine x_look (tgt := 92) (off := 91) hx hb rq dX4_joined_1 rfl (by rw [c1]; rfl) (by decide) ?_
    refine x_iload_n hx hb hl 2 rfl dX4_joined_92 rfl ?_
    refine x_if_ne (tgt := 100) hx hb rb dX4_joined_93 (by decide) (fun c3 => ?_) (fun c3 => ?_)
    · skip
      refine x_iload_n hx hb hl 1 rfl dX4_joined_100 rfl ?_
      refine x_iload_n hx hb hl 2 rfl dX4_joined_101 rfl ?_
      refine x_iremQ hx hb rb (by omega) dX4_joined_102 (fun x4 rx4 => ?_)
      rw [eQ]
      exact x_iret hx hb hr hlk hW rx4 ⟨rfl, trivial⟩ dX4_joined_103
    refine x_iconst hx hb dX4_joined_96 ?_
    refine lv_goto (tgt := 103) hx hb dX4_joined_97 (by decide) ?_
    rw [eQ]
    exact x_iret hx hb hr hlk hW (by decide) ⟨rfl, trivial⟩ dX4_joined_103
  · refine x_look (tgt := 76) (off := 75) hx hb rq dX4_joined_1 rfl (by rw [c1]; rfl) (by decide) ?_
    refine x_iload_n hx hb hl 1 rfl dX4_joined_76 rfl ?_
    refine x_iload_n hx hb hl 2 rfl dX4_joined_77 rfl ?_
    refine x_imul hx hb dX4_joined_78 ?_
    refine x_any (fun x5 rx5 => ?_)
    rw [eQ]
    exact x_iret hx hb hr hlk hW rx5 ⟨rfl, trivial⟩ dX4_joined_79
  · refine x_look (tgt := 68) (off := 67) hx hb rq dX4_joined_1 rfl (by rw [c1]; rfl) (by decide) ?_
    refine x_iload_n hx hb hl 1 rfl dX4_joined_68 rfl ?_
    refine x_iload_n hx hb hl 2 rfl dX4_joined_69 rfl ?_
    refine x_iadd hx hb dX4_joined_70 ?_
    refine x_any (fun x6 rx6 => ?_)
    rw [eQ]
    exact x_iret hx hb hr hlk hW rx6 ⟨rfl, trivial⟩ dX4_joined_71
  · refine x_look (tgt := 72) (off := 71) hx hb rq dX4_joined_1 rfl (by rw [c1]; rfl) (by decide) ?_
    refine x_iload_n hx hb hl 1 rfl dX4_joined_72 rfl ?_
    refine x_iload_n hx hb hl 2 rfl dX4_joined_73 rfl ?_
    refine x_isub hx hb dX4_joined_74 ?_
    refine x_any (fun x7 rx7 => ?_)
    rw [eQ]
    exact x_iret hx hb hr hlk hW rx7 ⟨rfl, trivial⟩ dX4_joined_75
  · refine x_look (tgt := 80) (off := 79) hx hb rq dX4_joined_1 rfl (by rw [c1]; rfl) (by decide) ?_
    refine x_iload_n hx hb hl 2 rfl dX4_joined_80 rfl ?_
    refine x_if_ne (tgt := 88) hx hb rb dX4_joined_81 (by decide) (fun c8 => ?_) (fun c8 => ?_)
    · skip
      refine x_iload_n hx hb hl 1 rfl dX4_joined_88 rfl ?_
      refine x_iload_n hx hb hl 2 rfl dX4_joined_89 rfl ?_
      refine x_idivQ hx hb rb (by omega) dX4_joined_90 (fun x9 rx9 => ?_)
      rw [eQ]
      exact x_iret hx hb hr hlk hW rx9 ⟨rfl, trivial⟩ dX4_joined_91
    refine x_iconst hx hb dX4_joined_84 ?_
    refine lv_goto (tgt := 91) hx hb dX4_joined_85 (by decide) ?_
    rw [eQ]
    exact x_iret hx hb hr hlk hW (by decide) ⟨rfl, trivial⟩ dX4_joined_91
  · refine x_look (tgt := 104) (off := 103) hx hb rq dX4_joined_1 rfl (by rw [c1]; rfl) (by decide) ?_
    refine x_iload_n hx hb hl 1 rfl dX4_joined_104 rfl ?_
    refine x_iload_n hx hb hl 2 rfl dX4_joined_105 rfl ?_
    refine x_icmp_ge (tgt := 113) hx hb ra rb dX4_joined_106 (by decide) (fun c10 => ?_) (fun c10 => ?_)
    · skip
      refine x_iconst hx hb dX4_joined_113 ?_
      rw [eQ]
      exact x_iret hx hb hr hlk hW (by decide) ⟨rfl, trivial⟩ dX4_joined_114
    refine x_iconst hx hb dX4_joined_109 ?_
    refine lv_goto (tgt := 114) hx hb dX4_joined_110 (by decide) ?_
    rw [eQ]
    exact x_iret hx hb hr hlk hW (by decide) ⟨rfl, trivial⟩ dX4_joined_114
  · refine x_look (tgt := 115) (off := 114) hx hb rq dX4_joined_1 rfl (by rw [c1]; rfl) (by decide) ?_
    refine x_iload_n hx hb hl 1 rfl dX4_joined_115 rfl ?_
    refine x_iload_n hx hb hl 2 rfl dX4_joined_116 rfl ?_
    refine x_icmp_le (tgt := 124) hx hb ra rb dX4_joined_117 (by decide) (fun c11 => ?_) (fun c11 => ?_)
    · skip
      refine x_iconst hx hb dX4_joined_124 ?_
      rw [eQ]
      exact x_iret hx hb hr hlk hW (by decide) ⟨rfl, trivial⟩ dX4_joined_125
    refine x_iconst hx hb dX4_joined_120 ?_
    refine lv_goto (tgt := 125) hx hb dX4_joined_121 (by decide) ?_
    rw [eQ]
    exact x_iret hx hb hr hlk hW (by decide) ⟨rfl, trivial⟩ dX4_joined_125
set_option maxHeartbeats 4000000 in
set_option maxRecDepth 100000 in
theorem c_X4_tellMinute (l : Launch) (D : va_G) (g : xG) (T : Nat × Nat × Nat) (h0 : Nat) (s0 : xS) (hσ : xRR s0) (t : Int) (rt : xR t) (p0 : IC s0) : Met l yX4_tellMinute (xws yX4_tellMinute cX4_tellMinute 3 none) { frames := 0, cells := 0, slots := 0, locals := 0 } (xP [.ref (h0 + 109), .int (xJ t)] D g T h0 s0) (xQv D g h0 (fun τ => xFr (fun k => k = 115) s0 τ ∧ (((IC τ) ∧ True) ∧ (True)))) 0 0 (xA h0) := by
  refine x_met hσ (by decide) (Nat.le_of_ble_eq_true rfl) ?_
  intro p e s m args below meth c hx hb hr hml hown hT hlk hnm hE hW ls hl
  have hl : lv_has ls 3 [(0, .ref (h0 + 109)), (1, .int (xJ t))] := hl
  obtain ⟨Q, eQ⟩ : ∃ Q, Q = MQ below (xQv D g h0 (fun τ => xFr (fun k => k = 115) s0 τ ∧ (((IC τ) ∧ True) ∧ (True)))) args s 0 0 (xA h0) := ⟨_, rfl⟩
  rw [← eQ]
  generalize hHe : ([] : List Loc) = locs at hW ⊢
  obtain ⟨H, eH⟩ : ∃ H, H = s.heap := ⟨_, rfl⟩
  rw [← eH] at hW ⊢
  have hF : xFr (fun k => k = 115) s0 s0 := xFr.rf
  have k1_1 : s0 1 1 = s0 1 1 := rfl
  refine x_iconst hx hb dX4_tellMinute_0 ?_
  refine lv_istore_n (lv' := [(2, .int (xJ 2)), (0, .ref (h0 + 109)), (1, .int (xJ t))]) hx hb dX4_tellMinute_1 rfl hl (by decide) rfl (fun ls hl => ?_)
  have L2 : ∀ (fu : Nat) (i2_2 : Int) (s_2 : xS) (H : Heap) (locs : List Loc) (ls : Array Slot), (xR i2_2) → (xFr (fun k => k = 115) s0 s_2) → (IC s_2) → (s_2 1 1 = s0 1 1) → (0 ≤ i2_2) → (7 - i2_2).toNat < fu → xW D g h0 s H locs s_2 → lv_has ls 3 [(0, .ref (h0 + 109)), (1, .int (xJ t)), (2, .int (xJ i2_2))] → W p l e { frames := 0, cells := 0, slots := 0, locals := 0 } s m args below meth c H locs 0 0 Q (F0 m 2 ls []) := by
    intro fu
    induction fu with
    | zero => intro i2_2 s_2 H locs ls ri2_2 hF_2 q2_0 q2_1 v2_0 hm; exact absurd hm (Nat.not_lt_zero _)
    | succ fu ih2 =>
      intro i2_2 s_2 H locs ls ri2_2 hF_2 q2_0 q2_1 v2_0 hm hW hl
      refine x_iload_n hx hb hl 2 rfl dX4_tellMinute_2 rfl ?_
      refine x_aload_n hx hb hl 0 rfl dX4_tellMinute_3 rfl ?_
      refine x_get (j := 7) (v := .ref (h0 + 115)) hx hb hown hT hE hW cls_X4 (Or.inl (by decide)) (so_109 h0 g _) (by decide) rfl wq264 dX4_tellMinute_4 ?_
      refine x_alen (n := 7) (t0 := 0) hx hb hE hW (Or.inl (by decide)) (sa_115 h0 g _) rfl rfl dX4_tellMinute_7 ?_
      refine x_icmp_ge (tgt := 24) hx hb ri2_2 (by decide) dX4_tellMinute_8 (by decide) (fun c1 => ?_) (fun c1 => ?_)
      · skip
        refine x_aload_n hx hb hl 0 rfl dX4_tellMinute_24 rfl ?_
        refine x_get (j := 7) (v := .ref (h0 + 115)) hx hb hown hT hE hW cls_X4 (Or.inl (by decide)) (so_109 h0 g _) (by decide) rfl wq264 dX4_tellMinute_25 ?_
        refine x_iconst hx hb dX4_tellMinute_28 ?_
        refine x_iload_n hx hb hl 1 rfl dX4_tellMinute_29 rfl ?_
        refine x_iast hx hb hE hW (by decide) (fun σ => sa_115 h0 g σ) ⟨by decide, by decide⟩ (by decide) rt dX4_tellMinute_30 (fun H locs s2 es2 hW => ?_)
        have q3 : IC s2 := by rw [es2]; exact IC_o (by decide) q2_0
        have q4 : s2 1 1 = s0 1 1 := (show s2 1 1 = s_2 1 1 from by rw [es2, xU_k _ _ _ (by omega)]).trans q2_1
        have hF5 := hF_2.put es2 (by omega)
        refine x_aload_n hx hb hl 0 rfl dX4_tellMinute_31 rfl ?_
        refine x_get (j := 7) (v := .ref (h0 + 115)) hx hb hown hT hE hW cls_X4 (Or.inl (by decide)) (so_109 h0 g _) (by decide) rfl wq264 dX4_tellMinute_32 ?_
        refine x_iconst hx hb dX4_tellMinute_35 ?_
        refine x_iload_n hx hb hl 1 rfl dX4_tellMinute_36 rfl ?_
        refine x_bipush hx hb dX4_tellMinute_37 (by decide) ?_
        refine x_idivQ hx hb (by decide) (by omega) dX4_tellMinute_39 (fun x6 rx6 => ?_)
        refine x_bipush hx hb dX4_tellMinute_40 (by decide) ?_
        refine x_iremQ hx hb (by decide) (by omega) dX4_tellMinute_42 (fun x7 rx7 => ?_)
        refine x_iast hx hb hE hW (by decide) (fun σ => sa_115 h0 g σ) ⟨by decide, by decide⟩ (by decide) rx7 dX4_tellMinute_43 (fun H locs s8 es8 hW => ?_)
        have q9 : IC s8 := by rw [es8]; exact IC_o (by decide) q3
        have q10 : s8 1 1 = s0 1 1 := (show s8 1 1 = s2 1 1 from by rw [es8, xU_k _ _ _ (by omega)]).trans q4
        have hF11 := hF5.put es8 (by omega)
        rw [eQ]
        exact x_vret hx hb hr hlk hW ⟨hF11, ⟨q9, trivial⟩, trivial⟩ dX4_tellMinute_44
      refine x_aload_n hx hb hl 0 rfl dX4_tellMinute_11 rfl ?_
      refine x_get (j := 7) (v := .ref (h0 + 115)) hx hb hown hT hE hW cls_X4 (Or.inl (by decide)) (so_109 h0 g _) (by decide) rfl wq264 dX4_tellMinute_12 ?_
      refine x_iload_n hx hb hl 2 rfl dX4_tellMinute_15 rfl ?_
      refine x_iconst hx hb dX4_tellMinute_16 ?_
      refine x_iast hx hb hE hW (by decide) (fun σ => sa_115 h0 g σ) (by omega) (by decide) (by decide) dX4_tellMinute_17 (fun H locs s12 es12 hW => ?_)
      have q13 : IC s12 := by rw [es12]; exact IC_o (by decide) q2_0
      have q14 : s12 1 1 = s0 1 1 := (show s12 1 1 = s_2 1 1 from by rw [es12, xU_k _ _ _ (by omega)]).trans q2_1
      have hF15 := hF_2.put es12 (by omega)
      refine x_iinc (lv' := [(2, .int (xJ (i2_2 + 1))), (0, .ref (h0 + 109)), (1, .int (xJ t))]) hx hb hl 2 rfl dX4_tellMinute_18 (by decide) rfl (fun ls hl => ?_)
      refine lv_goto (tgt := 2) hx hb dX4_tellMinute_21 (by decide) ?_
      exact ih2 (i2_2 + 1) s12 H locs ls (by omega) hF15 q13 q14 (by omega) (by omega) hW (lv_sub hl [1, 2, 0] rfl)
  exact L2 ((7 - 2 : Int).toNat + 1) 2 s0 H locs ls (by decide) hF p0 k1_1 (by omega) (Nat.lt_succ_self _) hW (lv_sub hl [1, 2, 0] rfl)
set_option maxHeartbeats 4000000 in
set_option maxRecDepth 100000 in
theorem c_X4_tellJudge (l : Launch) (D : va_G) (g : xG) (T : Nat × Nat × Nat) (h0 : Nat) (s0 : xS) (hσ : xRR s0) (t : Int) (rt : xR t) (j : Int) (rj : xR j) (p0 : IC s0) : Met l yX4_tellJudge (xws yX4_tellJudge cX4_tellJudge 3 none) { frames := 1, cells := 0, slots := 0, locals := 22 } (xP [.ref (h0 + 109), .int (xJ t), .int (xJ j)] D g T h0 s0) (xQv D g h0 (fun τ => xFr (fun k => k = 115) s0 τ ∧ (((IC τ) ∧ True) ∧ (True)))) 0 0 (xA h0) := by
  refine x_met hσ (by decide) (Nat.le_of_ble_eq_true rfl) ?_
  intro p e s m args below meth c hx hb hr hml hown hT hlk hnm hE hW ls hl
  have hl : lv_has ls 3 [(0, .ref (h0 + 109)), (1, .int (xJ t)), (2, .int (xJ j))] := hl
  obtain ⟨Q, eQ⟩ : ∃ Q, Q = MQ below (xQv D g h0 (fun τ => xFr (fun k => k = 115) s0 τ ∧ (((IC τ) ∧ True) ∧ (True)))) args s 0 0 (xA h0) := ⟨_, rfl⟩
  rw [← eQ]
  generalize hHe : ([] : List Loc) = locs at hW ⊢
  obtain ⟨H, eH⟩ : ∃ H, H = s.heap := ⟨_, rfl⟩
  rw [← eH] at hW ⊢
  have hF : xFr (fun k => k = 115) s0 s0 := xFr.rf
  have k1_1 : s0 1 1 = s0 1 1 := rfl
  refine x_aload_n hx hb hl 0 rfl dX4_tellJudge_0 rfl ?_
  refine x_iload_n hx hb hl 1 rfl dX4_tellJudge_1 rfl ?_
  refine x_gov (x_runV (As := [.int (xJ t)]) hx hb hml hown hT hE hW hl.1 (Or.inl (by decide)) (so_109 h0 g _) rfl cf_X4_tellMinute wq793 wq40 wq821 (c_X4_tellMinute l D g T h0 s0 hW.2.1 t rt p0) ⟨rfl, rfl, ⟨by decide, by decide⟩, ⟨by decide, by decide⟩⟩ rfl rfl (Nat.le_of_ble_eq_true rfl) dX4_tellJudge_2) hW (fun s2 H locs hp3 hW => ?_)
  obtain ⟨fs2, hp3⟩ := hp3
  have hF4 := hF.call fs2 (fun k h => by omega)
  have q5 : s2 1 1 = s0 1 1 := (congrFun (fs2 _ (by omega)) _).trans k1_1
  have ghp3 := hp3.2
  refine x_aload_n hx hb hl 0 rfl dX4_tellJudge_5 rfl ?_
  refine x_get (j := 7) (v := .ref (h0 + 115)) hx hb hown hT hE hW cls_X4 (Or.inl (by decide)) (so_109 h0 g _) (by decide) rfl wq264 dX4_tellJudge_6 ?_
  refine x_iconst hx hb dX4_tellJudge_9 ?_
  refine x_iload_n hx hb hl 2 rfl dX4_tellJudge_10 rfl ?_
  refine x_iast hx hb hE hW (by decide) (fun σ => sa_115 h0 g σ) ⟨by decide, by decide⟩ (by decide) rj dX4_tellJudge_11 (fun H locs s6 es6 hW => ?_)
  have q7 : s6 1 1 = s0 1 1 := (show s6 1 1 = s2 1 1 from by rw [es6, xU_k _ _ _ (by omega)]).trans q5
  have q8 : IC s6 := by rw [es6]; exact IC_o (by decide) hp3.1.1
  have hF9 := hF4.put es6 (by omega)
  rw [eQ]
  exact x_vret hx hb hr hlk hW ⟨hF9, ⟨q8, trivial⟩, trivial⟩ dX4_tellJudge_12
set_option maxHeartbeats 4000000 in
set_option maxRecDepth 100000 in
theorem c_X4_tellFelon (l : Launch) (D : va_G) (g : xG) (T : Nat × Nat × Nat) (h0 : Nat) (s0 : xS) (hσ : xRR s0) (t : Int) (rt : xR t) (f : Int) (rf : xR f) (w : Int) (rw : xR w) (b : Int) (rb : xR b) (q : Int) (rq : xR q) (p0 : IC s0) : Met l yX4_tellFelon (xws yX4_tellFelon cX4_tellFelon 6 none) { frames := 1, cells := 0, slots := 0, locals := 22 } (xP [.ref (h0 + 109), .int (xJ t), .int (xJ f), .int (xJ w), .int (xJ b), .int (xJ q)] D g T h0 s0) (xQv D g h0 (fun τ => xFr (fun k => k = 115) s0 τ ∧ (((IC τ) ∧ True) ∧ (True)))) 0 0 (xA h0) := by
  refine x_met hσ (by decide) (Nat.le_of_ble_eq_true rfl) ?_
  intro p e s m args below meth c hx hb hr hml hown hT hlk hnm hE hW ls hl
  have hl : lv_has ls 6 [(0, .ref (h0 + 109)), (1, .int (xJ t)), (2, .int (xJ f)), (3, .int (xJ w)), (4, .int (xJ b)), (5, .int (xJ q))] := hl
  obtain ⟨Q, eQ⟩ : ∃ Q, Q = MQ below (xQv D g h0 (fun τ => xFr (fun k => k = 115) s0 τ ∧ (((IC τ) ∧ True) ∧ (True)))) args s 0 0 (xA h0) := ⟨_, rfl⟩
  rw [← eQ]
  generalize hHe : ([] : List Loc) = locs at hW ⊢
  obtain ⟨H, eH⟩ : ∃ H, H = s.heap := ⟨_, rfl⟩
  rw [← eH] at hW ⊢
  have hF : xFr (fun k => k = 115) s0 s0 := xFr.rf
  have k1_1 : s0 1 1 = s0 1 1 := rfl
  refine x_aload_n hx hb hl 0 rfl dX4_tellFelon_0 rfl ?_
  refine x_iload_n hx hb hl 1 rfl dX4_tellFelon_1 rfl ?_
  refine x_gov (x_runV (As := [.int (xJ t)]) hx hb hml hown hT hE hW hl.1 (Or.inl (by decide)) (so_109 h0 g _) rfl cf_X4_tellMinute wq793 wq40 wq821 (c_X4_tellMinute l D g T h0 s0 hW.2.1 t rt p0) ⟨rfl, rfl, ⟨by decide, by decide⟩, ⟨by decide, by decide⟩⟩ rfl rfl (Nat.le_of_ble_eq_true rfl) dX4_tellFelon_2) hW (fun s2 H locs hp3 hW => ?_)
  obtain ⟨fs2, hp3⟩ := hp3
  have hF4 := hF.call fs2 (fun k h => by omega)
  have q5 : s2 1 1 = s0 1 1 := (congrFun (fs2 _ (by omega)) _).trans k1_1
  have ghp3 := hp3.2
  refine x_aload_n hx hb hl 0 rfl dX4_tellFelon_5 rfl ?_
  refine x_get (j := 7) (v := .ref (h0 + 115)) hx hb hown hT hE hW cls_X4 (Or.inl (by decide)) (so_109 h0 g _) (by decide) rfl wq264 dX4_tellFelon_6 ?_
  refine x_iconst hx hb dX4_tellFelon_9 ?_
  refine x_iload_n hx hb hl 2 rfl dX4_tellFelon_10 rfl ?_
  refine x_iast hx hb hE hW (by decide) (fun σ => sa_115 h0 g σ) ⟨by decide, by decide⟩ (by decide) rf dX4_tellFelon_11 (fun H locs s6 es6 hW => ?_)
  have q7 : s6 1 1 = s0 1 1 := (show s6 1 1 = s2 1 1 from by rw [es6, xU_k _ _ _ (by omega)]).trans q5
  have q8 : IC s6 := by rw [es6]; exact IC_o (by decide) hp3.1.1
  have hF9 := hF4.put es6 (by omega)
  refine x_aload_n hx hb hl 0 rfl dX4_tellFelon_12 rfl ?_
  refine x_get (j := 7) (v := .ref (h0 + 115)) hx hb hown hT hE hW cls_X4 (Or.inl (by decide)) (so_109 h0 g _) (by decide) rfl wq264 dX4_tellFelon_13 ?_
  refine x_iconst hx hb dX4_tellFelon_16 ?_
  refine x_iload_n hx hb hl 3 rfl dX4_tellFelon_17 rfl ?_
  refine x_iast hx hb hE hW (by decide) (fun σ => sa_115 h0 g σ) ⟨by decide, by decide⟩ (by decide) rw dX4_tellFelon_18 (fun H locs s10 es10 hW => ?_)
  have q11 : s10 1 1 = s0 1 1 := (show s10 1 1 = s6 1 1 from by rw [es10, xU_k _ _ _ (by omega)]).trans q7
  have q12 : IC s10 := by rw [es10]; exact IC_o (by decide) q8
  have hF13 := hF9.put es10 (by omega)
  refine x_aload_n hx hb hl 0 rfl dX4_tellFelon_19 rfl ?_
  refine x_get (j := 7) (v := .ref (h0 + 115)) hx hb hown hT hE hW cls_X4 (Or.inl (by decide)) (so_109 h0 g _) (by decide) rfl wq264 dX4_tellFelon_20 ?_
  refine x_iconst hx hb dX4_tellFelon_23 ?_
  refine x_iload hx hb hl 4 rfl dX4_tellFelon_24 ?_
  refine x_iast hx hb hE hW (by decide) (fun σ => sa_115 h0 g σ) ⟨by decide, by decide⟩ (by decide) rb dX4_tellFelon_26 (fun H locs s14 es14 hW => ?_)
  have q15 : s14 1 1 = s0 1 1 := (show s14 1 1 = s10 1 1 from by rw [es14, xU_k _ _ _ (by omega)]).trans q11
  have q16 : IC s14 := by rw [es14]; exact IC_o (by decide) q12
  have hF17 := hF13.put es14 (by omega)
  refine x_aload_n hx hb hl 0 rfl dX4_tellFelon_27 rfl ?_
  refine x_get (j := 7) (v := .ref (h0 + 115)) hx hb hown hT hE hW cls_X4 (Or.inl (by decide)) (so_109 h0 g _) (by decide) rfl wq264 dX4_tellFelon_28 ?_
  refine x_bipush hx hb dX4_tellFelon_31 (by decide) ?_
  refine x_iload hx hb hl 5 rfl dX4_tellFelon_33 ?_
  refine x_iast hx hb hE hW (by decide) (fun σ => sa_115 h0 g σ) ⟨by decide, by decide⟩ (by decide) rq dX4_tellFelon_35 (fun H locs s18 es18 hW => ?_)
  have q19 : s18 1 1 = s0 1 1 := (show s18 1 1 = s14 1 1 from by rw [es18, xU_k _ _ _ (by omega)]).trans q15
  have q20 : IC s18 := by rw [es18]; exact IC_o (by decide) q16
  have hF21 := hF17.put es18 (by omega)
  rw [eQ]
  exact x_vret hx hb hr hlk hW ⟨hF21, ⟨q20, trivial⟩, trivial⟩ dX4_tellFelon_36
set_option maxHeartbeats 4000000 in
set_option maxRecDepth 100000 in
theorem c_X4_reckon (l : Launch) (D : va_G) (g : xG) (T : Nat × Nat × Nat) (h0 : Nat) (s0 : xS) (hσ : xRR s0) (a : Int) (ra : xR a) (p0 : IC s0) : Met l yX4_reckon (xws yX4_reckon cX4_reckon 9 (some .int)) { frames := 1, cells := 0, slots := 0, locals := 22 } (xP [.ref (h0 + 109), .int (xJ a)] D g T h0 s0) (xQi D g h0 (fun r τ => xFr (fun k => k = 116) s0 τ ∧ (((IC τ) ∧ True) ∧ (True)))) 0 0 (xA h0) := by
  refine x_met hσ (by decide) (Nat.le_of_ble_eq_true rfl) ?_
  intro p e s m args below meth c hx hb hr hml hown hT hlk hnm hE hW ls hl
  have hl : lv_has ls 9 [(0, .ref (h0 + 109)), (1, .int (xJ a))] := hl
  obtain ⟨Q, eQ⟩ : ∃ Q, Q = MQ below (xQi D g h0 (fun r τ => xFr (fun k => k = 116) s0 τ ∧ (((IC τ) ∧ True) ∧ (True)))) args s 0 0 (xA h0) := ⟨_, rfl⟩
  rw [← eQ]
  generalize hHe : ([] : List Loc) = locs at hW ⊢
  obtain ⟨H, eH⟩ : ∃ H, H = s.heap := ⟨_, rfl⟩
  rw [← eH] at hW ⊢
  have hF : xFr (fun k => k = 116) s0 s0 := xFr.rf
  have k1_1 : s0 1 1 = s0 1 1 := rfl
  refine x_iload_n hx hb hl 1 rfl dX4_reckon_0 rfl ?_
  refine lv_istore_n (lv' := [(2, .int (xJ a)), (0, .ref (h0 + 109)), (1, .int (xJ a))]) hx hb dX4_reckon_1 rfl hl (by decide) rfl (fun ls hl => ?_)
  refine x_iconst hx hb dX4_reckon_2 ?_
  refine lv_istore_n (lv' := [(3, .int (xJ 0)), (2, .int (xJ a)), (0, .ref (h0 + 109)), (1, .int (xJ a))]) hx hb dX4_reckon_3 rfl hl (by decide) rfl (fun ls hl => ?_)
  refine x_iconst hx hb dX4_reckon_4 ?_
  refine lv_istore (lv' := [(4, .int (xJ 0)), (3, .int (xJ 0)), (2, .int (xJ a)), (0, .ref (h0 + 109)), (1, .int (xJ a))]) hx hb dX4_reckon_5 hl (by decide) rfl (fun ls hl => ?_)
  have L7 : ∀ (fu : Nat) (i2_7 : Int) (i3_7 : Int) (i4_7 : Int) (s_7 : xS) (H : Heap) (locs : List Loc) (ls : Array Slot), (xR i2_7) → (xR i3_7) → (xR i4_7) → (xFr (fun k => k = 116) s0 s_7) → (IC s_7) → (s_7 1 1 = s0 1 1) → (0 ≤ i4_7) → (0 ≤ i3_7 ∧ i3_7 ≤ 63) → (300 - i4_7).toNat < fu → xW D g h0 s H locs s_7 → lv_has ls 9 [(0, .ref (h0 + 109)), (2, .int (xJ i2_7)), (3, .int (xJ i3_7)), (4, .int (xJ i4_7))] → W p l e { frames := 1, cells := 0, slots := 0, locals := 22 } s m args below meth c H locs 0 0 Q (F0 m 7 ls []) := by
    intro fu
    induction fu with
    | zero => intro i2_7 i3_7 i4_7 s_7 H locs ls ri2_7 ri3_7 ri4_7 hF_7 q7_0 q7_1 v7_0 v7_1 hm; exact absurd hm (Nat.not_lt_zero _)
    | succ fu ih7 =>
      intro i2_7 i3_7 i4_7 s_7 H locs ls ri2_7 ri3_7 ri4_7 hF_7 q7_0 q7_1 v7_0 v7_1 hm hW hl
      refine x_iload hx hb hl 3 rfl dX4_reckon_7 ?_
      refine x_sipush hx hb dX4_reckon_9 (by decide) ?_
      refine x_icmp_ge (tgt := 255) hx hb ri4_7 (by decide) dX4_reckon_12 (by decide) (fun c1 => ?_) (fun c1 => ?_)
      · skip
        refine x_iconst hx hb dX4_reckon_255 ?_
        rw [eQ]
        exact x_iret hx hb hr hlk hW (by decide) ⟨hF_7, ⟨q7_0, trivial⟩, trivial⟩ dX4_reckon_256
      refine x_iload_n hx hb hl 1 rfl dX4_reckon_15 rfl ?_
      refine x_if_lt (tgt := 255) hx hb ri2_7 dX4_reckon_16 (by decide) (fun c2 => ?_) (fun c2 => ?_)
      · skip
        refine x_iconst hx hb dX4_reckon_255 ?_
        rw [eQ]
        exact x_iret hx hb hr hlk hW (by decide) ⟨hF_7, ⟨q7_0, trivial⟩, trivial⟩ dX4_reckon_256
      refine x_iload_n hx hb hl 1 rfl dX4_reckon_19 rfl ?_
      refine x_aload_n hx hb hl 0 rfl dX4_reckon_20 rfl ?_
      refine x_get (j := 2) (v := .int (xJ (s_7 109 2))) hx hb hown hT hE hW cls_X4 (Or.inl (by decide)) (so_109 h0 g _) (by decide) rfl wq253 dX4_reckon_21 ?_
      refine x_rd hW (fun x3 ex3 rx3 => ?_)
      have bx3 : 0 ≤ x3 ∧ x3 ≤ 300 := by rw [ex3]; exact (IC.l1 q7_0).1
      refine x_icmp_ge (tgt := 255) hx hb ri2_7 rx3 dX4_reckon_24 (by decide) (fun c4 => ?_) (fun c4 => ?_)
      · skip
        refine x_iconst hx hb dX4_reckon_255 ?_
        rw [eQ]
        exact x_iret hx hb hr hlk hW (by decide) ⟨hF_7, ⟨q7_0, trivial⟩, trivial⟩ dX4_reckon_256
      refine x_aload_n hx hb hl 0 rfl dX4_reckon_27 rfl ?_
      refine x_get (j := 0) (v := .ref (h0 + 110)) hx hb hown hT hE hW cls_X4 (Or.inl (by decide)) (so_109 h0 g _) (by decide) rfl wq251 dX4_reckon_28 ?_
      refine x_iload_n hx hb hl 1 rfl dX4_reckon_31 rfl ?_
      refine x_iald hx hb hE hW (Or.inl (by decide)) (sa_110 h0 g _) (by omega) (by decide) dX4_reckon_32 ?_
      refine x_rd hW (fun x5 ex5 rx5 => ?_)
      refine lv_istore (lv' := [(5, .int (xJ x5)), (0, .ref (h0 + 109)), (2, .int (xJ i2_7)), (3, .int (xJ i3_7)), (4, .int (xJ i4_7))]) hx hb dX4_reckon_33 hl (by decide) rfl (fun ls hl => ?_)
      refine x_aload_n hx hb hl 1 rfl dX4_reckon_35 rfl ?_
      refine x_get (j := 1) (v := .ref (h0 + 111)) hx hb hown hT hE hW cls_X4 (Or.inl (by decide)) (so_109 h0 g _) (by decide) rfl wq252 dX4_reckon_36 ?_
      refine x_iload_n hx hb hl 2 rfl dX4_reckon_39 rfl ?_
      refine x_iald hx hb hE hW (Or.inl (by decide)) (sa_111 h0 g _) (by omega) (by decide) dX4_reckon_40 ?_
      refine x_rd hW (fun x6 ex6 rx6 => ?_)
      refine lv_istore (lv' := [(6, .int (xJ x6)), (5, .int (xJ x5)), (0, .ref (h0 + 109)), (2, .int (xJ i2_7)), (3, .int (xJ i3_7)), (4, .int (xJ i4_7))]) hx hb dX4_reckon_41 hl (by decide) rfl (fun ls hl => ?_)
      refine x_iinc (lv' := [(2, .int (xJ (i2_7 + 1))), (6, .int (xJ x6)), (5, .int (xJ x5)), (0, .ref (h0 + 109)), (3, .int (xJ i3_7)), (4, .int (xJ i4_7))]) hx hb hl 3 rfl dX4_reckon_43 (by decide) rfl (fun ls hl => ?_)
      refine x_aload_n hx hb hl 3 rfl dX4_reckon_46 rfl ?_
      refine x_get (j := 8) (v := .ref (h0 + 116)) hx hb hown hT hE hW cls_X4 (Or.inl (by decide)) (so_109 h0 g _) (by decide) rfl wq265 dX4_reckon_47 ?_
      refine x_iload_n hx hb hl 4 rfl dX4_reckon_50 rfl ?_
      refine x_iald hx hb hE hW (Or.inl (by decide)) (sa_116 h0 g _) (by omega) (by decide) dX4_reckon_51 ?_
      refine x_rd hW (fun x7 ex7 rx7 => ?_)
      refine lv_istore (lv' := [(7, .int (xJ x7)), (2, .int (xJ (i2_7 + 1))), (6, .int (xJ x6)), (5, .int (xJ x5)), (0, .ref (h0 + 109)), (3, .int (xJ i3_7)), (4, .int (xJ i4_7))]) hx hb dX4_reckon_52 hl (by decide) rfl (fun ls hl => ?_)
      refine x_iload_n hx hb hl 5 rfl dX4_reckon_54 rfl ?_
      have J65 : ∀ (t0_65 : Int) (ls : Array Slot), (xR t0_65) → (0 ≤ t0_65 ∧ t0_65 ≤ 63) → lv_has ls 9 [(0, .ref (h0 + 109)), (2, .int (xJ (i2_7 + 1))), (3, .int (xJ i3_7)), (4, .int (xJ i4_7)), (5, .int (xJ x5)), (6, .int (xJ x6)), (7, .int (xJ x7))] → W p l e { frames := 1, cells := 0, slots := 0, locals := 22 } s m args below meth c H locs 0 0 Q (F0 m 65 ls [.int (xJ t0_65)]) := by
        intro t0_65 ls rt0_65 v65_0  hl
        refine lv_istore (lv' := [(8, .int (xJ t0_65)), (0, .ref (h0 + 109)), (2, .int (xJ (i2_7 + 1))), (3, .int (xJ i3_7)), (4, .int (xJ i4_7)), (5, .int (xJ x5)), (6, .int (xJ x6)), (7, .int (xJ x7))]) hx hb dX4_reckon_65 hl (by decide) rfl (fun ls hl => ?_)
        refine x_iload hx hb hl 5 rfl dX4_reckon_67 ?_
        have J249 : ∀ (i2_249 : Int) (i3_249 : Int) (s_249 : xS) (H : Heap) (locs : List Loc) (ls : Array Slot), (xR i2_249) → (xR i3_249) → (xFr (fun k => k = 116) s0 s_249) → (IC s_249) → (s_249 1 1 = s0 1 1) → (0 ≤ i3_249 ∧ i3_249 ≤ 63) → xW D g h0 s H locs s_249 → lv_has ls 9 [(0, .ref (h0 + 109)), (2, .int (xJ i2_249)), (3, .int (xJ i3_249)), (4, .int (xJ i4_7))] → W p l e { frames := 1, cells := 0, slots := 0, locals := 22 } s m args below meth c H locs 0 0 Q (F0 m 249 ls []) := by
          intro i2_249 i3_249 s_249 H locs ls ri2_249 ri3_249 hF_249 q249_0 q249_1 v249_0 hW hl
          refine x_iinc (lv' := [(4, .int (xJ (i4_7 + 1))), (0, .ref (h0 + 109)), (2, .int (xJ i2_249)), (3, .int (xJ i3_249))]) hx hb hl 3 rfl dX4_reckon_249 (by decide) rfl (fun ls hl => ?_)
          refine lv_goto (tgt := 7) hx hb dX4_reckon_252 (by decide) ?_
          exact ih7 i2_249 i3_249 (i4_7 + 1) s_249 H locs ls ri2_249 ri3_249 (by omega) hF_249 q249_0 q249_1 (by omega) (by omega) (by omega) hW (lv_sub hl [1, 2, 3, 0] rfl)
        have J170 : ∀ (ls : Array Slot), lv_has ls 9 [(0, .ref (h0 + 109)), (2, .int (xJ (i2_7 + 1))), (3, .int (xJ i3_7)), (4, .int (xJ i4_7)), (5, .int (xJ x5)), (6, .int (xJ x6)), (7, .int (xJ x7)), (8, .int (xJ t0_65))] → W p l e { frames := 1, cells := 0, slots := 0, locals := 22 } s m args below meth c H locs 0 0 Q (F0 m 170 ls []) := by
          intro ls   hl
          refine x_iload hx hb hl 6 rfl dX4_reckon_170 ?_
          have J180 : ∀ (t0_180 : Int) (ls : Array Slot), (xR t0_180) → lv_has ls 9 [(0, .ref (h0 + 109)), (2, .int (xJ (i2_7 + 1))), (3, .int (xJ i3_7)), (4, .int (xJ i4_7)), (5, .int (xJ x5)), (6, .int (xJ x6)), (8, .int (xJ t0_65))] → W p l e { frames := 1, cells := 0, slots := 0, locals := 22 } s m args below meth c H locs 0 0 Q (F0 m 180 ls [.int (xJ t0_180)]) := by
            intro t0_180 ls rt0_180  hl
            refine x_iload hx hb hl 4 rfl dX4_reckon_180 ?_
            refine x_iconst hx hb dX4_reckon_182 ?_
            have J191 : ∀ (t0_191 : Int) (ls : Array Slot), (xR t0_191) → lv_has ls 9 [(0, .ref (h0 + 109)), (2, .int (xJ (i2_7 + 1))), (3, .int (xJ i3_7)), (4, .int (xJ i4_7)), (6, .int (xJ x6)), (8, .int (xJ t0_65))] → W p l e { frames := 1, cells := 0, slots := 0, locals := 22 } s m args below meth c H locs 0 0 Q (F0 m 191 ls [.int (xJ t0_191), .int (xJ t0_180)]) := by
              intro t0_191 ls rt0_191  hl
              refine x_icmp_ne (tgt := 200) hx hb rt0_180 rt0_191 dX4_reckon_191 (by decide) (fun c8 => ?_) (fun c8 => ?_)
              · skip
                refine x_iload hx hb hl 5 rfl dX4_reckon_200 ?_
                refine lv_istore_n (lv' := [(3, .int (xJ t0_65)), (0, .ref (h0 + 109)), (2, .int (xJ (i2_7 + 1))), (4, .int (xJ i4_7)), (6, .int (xJ x6)), (8, .int (xJ t0_65))]) hx hb dX4_reckon_202 rfl hl (by decide) rfl (fun ls hl => ?_)
                refine lv_goto (tgt := 249) hx hb dX4_reckon_203 (by decide) ?_
                exact J249 (i2_7 + 1) t0_65 s_7 H locs ls (by omega) rt0_65 hF_7 q7_0 q7_1 (by omega) hW (lv_sub hl [1, 2, 0, 3] rfl)
              refine x_iload hx hb hl 4 rfl dX4_reckon_194 ?_
              refine lv_istore_n (lv' := [(2, .int (xJ x6)), (0, .ref (h0 + 109)), (3, .int (xJ i3_7)), (4, .int (xJ i4_7)), (6, .int (xJ x6)), (8, .int (xJ t0_65))]) hx hb dX4_reckon_196 rfl hl (by decide) rfl (fun ls hl => ?_)
              refine lv_goto (tgt := 249) hx hb dX4_reckon_197 (by decide) ?_
              exact J249 x6 i3_7 s_7 H locs ls rx6 ri3_7 hF_7 q7_0 q7_1 (by omega) hW (lv_sub hl [1, 0, 2, 3] rfl)
            refine x_icmp_ne (tgt := 190) hx hb rx5 (by decide) dX4_reckon_183 (by decide) (fun c9 => ?_) (fun c9 => ?_)
            · skip
              refine x_iconst hx hb dX4_reckon_190 ?_
              exact J191 0 ls (by decide)  (lv_sub hl [0, 1, 2, 3, 5, 6] rfl)
            refine x_iconst hx hb dX4_reckon_186 ?_
            refine lv_goto (tgt := 191) hx hb dX4_reckon_187 (by decide) ?_
            exact J191 1 ls (by decide)  (lv_sub hl [0, 1, 2, 3, 5, 6] rfl)
          refine x_if_eq (tgt := 179) hx hb rx7 dX4_reckon_172 (by decide) (fun c10 => ?_) (fun c10 => ?_)
          · skip
            refine x_iconst hx hb dX4_reckon_179 ?_
            exact J180 0 ls (by decide)  (lv_sub hl [0, 1, 2, 3, 4, 5, 7] rfl)
          refine x_iconst hx hb dX4_reckon_175 ?_
          refine lv_goto (tgt := 180) hx hb dX4_reckon_176 (by decide) ?_
          exact J180 1 ls (by decide)  (lv_sub hl [0, 1, 2, 3, 4, 5, 7] rfl)
        have J111 : ∀ (ls : Array Slot), lv_has ls 9 [(0, .ref (h0 + 109)), (2, .int (xJ (i2_7 + 1))), (3, .int (xJ i3_7)), (4, .int (xJ i4_7)), (5, .int (xJ x5)), (6, .int (xJ x6))] → W p l e { frames := 1, cells := 0, slots := 0, locals := 22 } s m args below meth c H locs 0 0 Q (F0 m 111 ls []) := by
          intro ls   hl
          refine x_iload_n hx hb hl 2 rfl dX4_reckon_111 rfl ?_
          refine x_bipush hx hb dX4_reckon_112 (by decide) ?_
          have J124 : ∀ (t0_124 : Int) (ls : Array Slot), (xR t0_124) → (0 ≤ t0_124 ∧ t0_124 ≤ 63) → lv_has ls 9 [(0, .ref (h0 + 109)), (2, .int (xJ (i2_7 + 1))), (4, .int (xJ i4_7)), (5, .int (xJ x5)), (6, .int (xJ x6))] → W p l e { frames := 1, cells := 0, slots := 0, locals := 22 } s m args below meth c H locs 0 0 Q (F0 m 124 ls [.int (xJ t0_124)]) := by
            intro t0_124 ls rt0_124 v124_0  hl
            refine lv_istore_n (lv' := [(3, .int (xJ t0_124)), (0, .ref (h0 + 109)), (2, .int (xJ (i2_7 + 1))), (4, .int (xJ i4_7)), (5, .int (xJ x5)), (6, .int (xJ x6))]) hx hb dX4_reckon_124 rfl hl (by decide) rfl (fun ls hl => ?_)
            refine x_aload_n hx hb hl 1 rfl dX4_reckon_125 rfl ?_
            refine x_get (j := 8) (v := .ref (h0 + 116)) hx hb hown hT hE hW cls_X4 (Or.inl (by decide)) (so_109 h0 g _) (by decide) rfl wq265 dX4_reckon_126 ?_
            refine x_iload_n hx hb hl 0 rfl dX4_reckon_129 rfl ?_
            refine x_iload hx hb hl 4 rfl dX4_reckon_130 ?_
            refine x_iconst hx hb dX4_reckon_132 ?_
            refine x_icmp_ne (tgt := 141) hx hb rx5 (by decide) dX4_reckon_133 (by decide) (fun c11 => ?_) (fun c11 => ?_)
            · skip
              refine x_aload_n hx hb hl 1 rfl dX4_reckon_141 rfl ?_
              refine x_iload hx hb hl 5 rfl dX4_reckon_142 ?_
              refine x_goi (x_runV (As := [.int (xJ x6)]) hx hb hml hown hT hE hW hl.1 (Or.inl (by decide)) (so_109 h0 g _) rfl cf_X4_toldAt wq810 wq44 wq808 (c_X4_toldAt l D g T h0 s_7 hW.2.1 x6 rx6 q7_0) ⟨rfl, rfl, ⟨by decide, by decide⟩, ⟨by decide, by decide⟩⟩ rfl rfl (Nat.le_of_ble_eq_true rfl) dX4_reckon_144) hW (fun x12 s13 H locs rx12 hp14 hW => ?_)
              obtain ⟨es13, hp14⟩ := hp14
              subst es13
              have ghp14 := hp14
              refine x_iast hx hb hE hW (by decide) (fun σ => sa_116 h0 g σ) (by omega) (by decide) rx12 dX4_reckon_147 (fun H locs s15 es15 hW => ?_)
              have q16 : IC s15 := by rw [es15]; exact IC_o (by decide) q7_0
              have q17 : s15 1 1 = s0 1 1 := (show s15 1 1 = s_7 1 1 from by rw [es15, xU_k _ _ _ (by omega)]).trans q7_1
              have hF18 := hF_7.put es15 (by omega)
              refine lv_goto (tgt := 249) hx hb dX4_reckon_148 (by decide) ?_
              exact J249 (i2_7 + 1) t0_124 s15 H locs ls (by omega) rt0_124 hF18 q16 q17 (by omega) hW (lv_sub hl [1, 2, 0, 3] rfl)
            refine x_iload hx hb hl 5 rfl dX4_reckon_136 ?_
            refine lv_goto (tgt := 147) hx hb dX4_reckon_138 (by decide) ?_
            refine x_iast hx hb hE hW (by decide) (fun σ => sa_116 h0 g σ) (by omega) (by decide) rx6 dX4_reckon_147 (fun H locs s19 es19 hW => ?_)
            have q20 : IC s19 := by rw [es19]; exact IC_o (by decide) q7_0
            have q21 : s19 1 1 = s0 1 1 := (show s19 1 1 = s_7 1 1 from by rw [es19, xU_k _ _ _ (by omega)]).trans q7_1
            have hF22 := hF_7.put es19 (by omega)
            refine lv_goto (tgt := 249) hx hb dX4_reckon_148 (by decide) ?_
            exact J249 (i2_7 + 1) t0_124 s19 H locs ls (by omega) rt0_124 hF22 q20 q21 (by omega) hW (lv_sub hl [1, 2, 0, 3] rfl)
          refine x_icmp_ge (tgt := 123) hx hb ri3_7 (by decide) dX4_reckon_114 (by decide) (fun c23 => ?_) (fun c23 => ?_)
          · skip
            refine x_iload_n hx hb hl 2 rfl dX4_reckon_123 rfl ?_
            exact J124 i3_7 ls ri3_7 (by omega)  (lv_sub hl [0, 1, 3, 4, 5] rfl)
          refine x_iload_n hx hb hl 2 rfl dX4_reckon_117 rfl ?_
          refine x_iconst hx hb dX4_reckon_118 ?_
          refine x_iadd hx hb dX4_reckon_119 ?_
          refine lv_goto (tgt := 124) hx hb dX4_reckon_120 (by decide) ?_
          exact J124 (i3_7 + 1) ls (by omega) (by omega)  (lv_sub hl [0, 1, 3, 4, 5] rfl)
        rcases (show (x5 < 0 ∨ 5 < x5) ∨ x5 = 0 ∨ x5 = 1 ∨ x5 = 2 ∨ x5 = 3 ∨ x5 = 4 ∨ x5 = 5 from by omega) with c24 | c24 | c24 | c24 | c24 | c24 | c24
        · refine x_tabOut (tgt := 206) hx hb rx5 dX4_reckon_69 c24 (by decide) ?_
          refine x_iload hx hb hl 7 rfl dX4_reckon_206 ?_
          have J227 : ∀ (ls : Array Slot), lv_has ls 9 [(0, .ref (h0 + 109)), (2, .int (xJ (i2_7 + 1))), (4, .int (xJ i4_7)), (5, .int (xJ x5)), (7, .int (xJ x7)), (8, .int (xJ t0_65))] → W p l e { frames := 1, cells := 0, slots := 0, locals := 22 } s m args below meth c H locs 0 0 Q (F0 m 227 ls []) := by
            intro ls   hl
            refine x_iload hx hb hl 5 rfl dX4_reckon_227 ?_
            refine lv_istore_n (lv' := [(3, .int (xJ t0_65)), (0, .ref (h0 + 109)), (2, .int (xJ (i2_7 + 1))), (4, .int (xJ i4_7)), (5, .int (xJ x5)), (7, .int (xJ x7)), (8, .int (xJ t0_65))]) hx hb dX4_reckon_229 rfl hl (by decide) rfl (fun ls hl => ?_)
            refine x_aload_n hx hb hl 1 rfl dX4_reckon_230 rfl ?_
            refine x_get (j := 8) (v := .ref (h0 + 116)) hx hb hown hT hE hW cls_X4 (Or.inl (by decide)) (so_109 h0 g _) (by decide) rfl wq265 dX4_reckon_231 ?_
            refine x_iload_n hx hb hl 0 rfl dX4_reckon_234 rfl ?_
            refine x_iload hx hb hl 4 rfl dX4_reckon_235 ?_
            refine x_aload_n hx hb hl 1 rfl dX4_reckon_237 rfl ?_
            refine x_get (j := 8) (v := .ref (h0 + 116)) hx hb hown hT hE hW cls_X4 (Or.inl (by decide)) (so_109 h0 g _) (by decide) rfl wq265 dX4_reckon_238 ?_
            refine x_iload_n hx hb hl 0 rfl dX4_reckon_241 rfl ?_
            refine x_iald hx hb hE hW (Or.inl (by decide)) (sa_116 h0 g _) (by omega) (by decide) dX4_reckon_242 ?_
            refine x_rd hW (fun x25 ex25 rx25 => ?_)
            refine x_iload hx hb hl 5 rfl dX4_reckon_243 ?_
            refine x_goi (x_runS (As := [.int (xJ x5), .int (xJ x25), .int (xJ x7)]) hx hb hml hown hT hE hW hl.1 cf_X4_joined wq813 wq812 (c_X4_joined l D g T h0 s_7 hW.2.1 x5 rx5 x25 rx25 x7 rx7) ⟨rfl, rfl, ⟨by decide, by decide⟩, ⟨by decide, by decide⟩⟩ rfl rfl (Nat.le_of_ble_eq_true rfl) dX4_reckon_245) hW (fun x26 s27 H locs rx26 hp28 hW => ?_)
            obtain ⟨es27, hp28⟩ := hp28
            subst es27
            have ghp28 := hp28
            refine x_iast hx hb hE hW (by decide) (fun σ => sa_116 h0 g σ) (by omega) (by decide) rx26 dX4_reckon_248 (fun H locs s29 es29 hW => ?_)
            have q30 : IC s29 := by rw [es29]; exact IC_o (by decide) q7_0
            have q31 : s29 1 1 = s0 1 1 := (show s29 1 1 = s_7 1 1 from by rw [es29, xU_k _ _ _ (by omega)]).trans q7_1
            have hF32 := hF_7.put es29 (by omega)
            exact J249 (i2_7 + 1) t0_65 s29 H locs ls (by omega) rt0_65 hF32 q30 q31 (by omega) hW (lv_sub hl [1, 2, 0, 3] rfl)
          refine x_if_ne (tgt := 227) hx hb rx7 dX4_reckon_208 (by decide) (fun c33 => ?_) (fun c33 => ?_)
          · skip
            exact J227 ls   (lv_sub hl [1, 2, 4, 5, 7, 0] rfl)
          refine x_iload hx hb hl 5 rfl dX4_reckon_211 ?_
          refine x_bipush hx hb dX4_reckon_213 (by decide) ?_
          refine x_icmp_eq (tgt := 225) hx hb rx5 (by decide) dX4_reckon_215 (by decide) (fun c34 => ?_) (fun c34 => ?_)
          · skip
            refine x_iconst hx hb dX4_reckon_225 ?_
            rw [eQ]
            exact x_iret hx hb hr hlk hW (by decide) ⟨hF_7, ⟨q7_0, trivial⟩, trivial⟩ dX4_reckon_226
          refine x_iload hx hb hl 5 rfl dX4_reckon_218 ?_
          refine x_bipush hx hb dX4_reckon_220 (by decide) ?_
          refine x_icmp_ne (tgt := 227) hx hb rx5 (by decide) dX4_reckon_222 (by decide) (fun c35 => ?_) (fun c35 => ?_)
          · skip
            exact J227 ls   (lv_sub hl [1, 2, 4, 5, 7, 0] rfl)
          refine x_iconst hx hb dX4_reckon_225 ?_
          rw [eQ]
          exact x_iret hx hb hr hlk hW (by decide) ⟨hF_7, ⟨q7_0, trivial⟩, trivial⟩ dX4_reckon_226
        · refine x_tabIn (v := 0) (tgt := 108) hx hb rx5 c24 dX4_reckon_69 (by decide) rfl (by decide) ?_
          refine x_iload hx hb hl 7 rfl dX4_reckon_108 ?_
          rw [eQ]
          exact x_iret hx hb hr hlk hW rx7 ⟨hF_7, ⟨q7_0, trivial⟩, trivial⟩ dX4_reckon_110
        · refine x_tabIn (v := 1) (tgt := 111) hx hb rx5 c24 dX4_reckon_69 (by decide) rfl (by decide) ?_
          exact J111 ls   (lv_sub hl [1, 2, 3, 4, 5, 6] rfl)
        · refine x_tabIn (v := 2) (tgt := 111) hx hb rx5 c24 dX4_reckon_69 (by decide) rfl (by decide) ?_
          exact J111 ls   (lv_sub hl [1, 2, 3, 4, 5, 6] rfl)
        · refine x_tabIn (v := 3) (tgt := 151) hx hb rx5 c24 dX4_reckon_69 (by decide) rfl (by decide) ?_
          refine x_aload_n hx hb hl 1 rfl dX4_reckon_151 rfl ?_
          refine x_get (j := 8) (v := .ref (h0 + 116)) hx hb hown hT hE hW cls_X4 (Or.inl (by decide)) (so_109 h0 g _) (by decide) rfl wq265 dX4_reckon_152 ?_
          refine x_iload_n hx hb hl 3 rfl dX4_reckon_155 rfl ?_
          refine x_iload hx hb hl 7 rfl dX4_reckon_156 ?_
          refine x_if_ne (tgt := 165) hx hb rx7 dX4_reckon_158 (by decide) (fun c36 => ?_) (fun c36 => ?_)
          · skip
            refine x_iconst hx hb dX4_reckon_165 ?_
            refine x_iast hx hb hE hW (by decide) (fun σ => sa_116 h0 g σ) (by omega) (by decide) (by decide) dX4_reckon_166 (fun H locs s37 es37 hW => ?_)
            have q38 : IC s37 := by rw [es37]; exact IC_o (by decide) q7_0
            have q39 : s37 1 1 = s0 1 1 := (show s37 1 1 = s_7 1 1 from by rw [es37, xU_k _ _ _ (by omega)]).trans q7_1
            have hF40 := hF_7.put es37 (by omega)
            refine lv_goto (tgt := 249) hx hb dX4_reckon_167 (by decide) ?_
            exact J249 (i2_7 + 1) i3_7 s37 H locs ls (by omega) ri3_7 hF40 q38 q39 (by omega) hW (lv_sub hl [1, 2, 3, 4] rfl)
          refine x_iconst hx hb dX4_reckon_161 ?_
          refine lv_goto (tgt := 166) hx hb dX4_reckon_162 (by decide) ?_
          refine x_iast hx hb hE hW (by decide) (fun σ => sa_116 h0 g σ) (by omega) (by decide) (by decide) dX4_reckon_166 (fun H locs s41 es41 hW => ?_)
          have q42 : IC s41 := by rw [es41]; exact IC_o (by decide) q7_0
          have q43 : s41 1 1 = s0 1 1 := (show s41 1 1 = s_7 1 1 from by rw [es41, xU_k _ _ _ (by omega)]).trans q7_1
          have hF44 := hF_7.put es41 (by omega)
          refine lv_goto (tgt := 249) hx hb dX4_reckon_167 (by decide) ?_
          exact J249 (i2_7 + 1) i3_7 s41 H locs ls (by omega) ri3_7 hF44 q42 q43 (by omega) hW (lv_sub hl [1, 2, 3, 4] rfl)
        · refine x_tabIn (v := 4) (tgt := 170) hx hb rx5 c24 dX4_reckon_69 (by decide) rfl (by decide) ?_
          exact J170 ls   (lv_sub hl [1, 2, 3, 4, 5, 6, 7, 0] rfl)
        · refine x_tabIn (v := 5) (tgt := 170) hx hb rx5 c24 dX4_reckon_69 (by decide) rfl (by decide) ?_
          exact J170 ls   (lv_sub hl [1, 2, 3, 4, 5, 6, 7, 0] rfl)
      refine x_if_le (tgt := 64) hx hb ri3_7 dX4_reckon_55 (by decide) (fun c45 => ?_) (fun c45 => ?_)
      · skip
        refine x_iconst hx hb dX4_reckon_64 ?_
        exact J65 0 ls (by decide) (by omega)  (lv_sub hl [4, 1, 5, 6, 3, 2, 0] rfl)
      refine x_iload_n hx hb hl 5 rfl dX4_reckon_58 rfl ?_
      refine x_iconst hx hb dX4_reckon_59 ?_
      refine x_isub hx hb dX4_reckon_60 ?_
      refine lv_goto (tgt := 65) hx hb dX4_reckon_61 (by decide) ?_
      exact J65 (i3_7 - 1) ls (by omega) (by omega)  (lv_sub hl [4, 1, 5, 6, 3, 2, 0] rfl)
  exact L7 ((300 - 0 : Int).toNat + 1) a 0 0 s0 H locs ls ra (by decide) (by decide) hF p0 k1_1 (by omega) (by omega) (Nat.lt_succ_self _) hW (lv_sub hl [3, 2, 1, 0] rfl)
set_option maxHeartbeats 4000000 in
set_option maxRecDepth 100000 in
theorem c_X4_isNight (l : Launch) (D : va_G) (g : xG) (T : Nat × Nat × Nat) (h0 : Nat) (s0 : xS) (hσ : xRR s0) (t : Int) (rt : xR t) (p0 : IC s0) : Met l yX4_isNight (xws yX4_isNight cX4_isNight 3 (some .boolean)) { frames := 2, cells := 0, slots := 0, locals := 50 } (xP [.ref (h0 + 109), .int (xJ t)] D g T h0 s0) (xQi D g h0 (fun r τ => xFr (fun k => k = 115 ∨ k = 116) s0 τ ∧ (((IC τ) ∧ True) ∧ (r = 0 ∨ r = 1)))) 0 0 (xA h0) := by
  refine x_met hσ (by decide) (Nat.le_of_ble_eq_true rfl) ?_
  intro p e s m args below meth c hx hb hr hml hown hT hlk hnm hE hW ls hl
  have hl : lv_has ls 3 [(0, .ref (h0 + 109)), (1, .int (xJ t))] := hl
  obtain ⟨Q, eQ⟩ : ∃ Q, Q = MQ below (xQi D g h0 (fun r τ => xFr (fun k => k = 115 ∨ k = 116) s0 τ ∧ (((IC τ) ∧ True) ∧ (r = 0 ∨ r = 1)))) args s 0 0 (xA h0) := ⟨_, rfl⟩
  rw [← eQ]
  generalize hHe : ([] : List Loc) = locs at hW ⊢
  obtain ⟨H, eH⟩ : ∃ H, H = s.heap := ⟨_, rfl⟩
  rw [← eH] at hW ⊢
  have hF : xFr (fun k => k = 115 ∨ k = 116) s0 s0 := xFr.rf
  have k1_1 : s0 1 1 = s0 1 1 := rfl
  refine x_aload_n hx hb hl 0 rfl dX4_isNight_0 rfl ?_
  refine x_iload_n hx hb hl 1 rfl dX4_isNight_1 rfl ?_
  refine x_gov (x_runV (As := [.int (xJ t)]) hx hb hml hown hT hE hW hl.1 (Or.inl (by decide)) (so_109 h0 g _) rfl cf_X4_tellMinute wq793 wq40 wq821 (c_X4_tellMinute l D g T h0 s0 hW.2.1 t rt p0) ⟨rfl, rfl, ⟨by decide, by decide⟩, ⟨by decide, by decide⟩⟩ rfl rfl (Nat.le_of_ble_eq_true rfl) dX4_isNight_2) hW (fun s2 H locs hp3 hW => ?_)
  obtain ⟨fs2, hp3⟩ := hp3
  have hF4 := hF.call fs2 (fun k h => by omega)
  have q5 : s2 1 1 = s0 1 1 := (congrFun (fs2 _ (by omega)) _).trans k1_1
  have ghp3 := hp3.2
  refine x_iconst hx hb dX4_isNight_5 ?_
  refine lv_istore_n (lv' := [(2, .int (xJ 0)), (0, .ref (h0 + 109)), (1, .int (xJ t))]) hx hb dX4_isNight_6 rfl hl (by decide) rfl (fun ls hl => ?_)
  have L7 : ∀ (fu : Nat) (i2_7 : Int) (s_7 : xS) (H : Heap) (locs : List Loc) (ls : Array Slot), (xR i2_7) → (xFr (fun k => k = 115 ∨ k = 116) s0 s_7) → (s_7 1 1 = s0 1 1) → (IC s_7) → (0 ≤ i2_7) → (16 - i2_7).toNat < fu → xW D g h0 s H locs s_7 → lv_has ls 3 [(0, .ref (h0 + 109)), (2, .int (xJ i2_7))] → W p l e { frames := 2, cells := 0, slots := 0, locals := 50 } s m args below meth c H locs 0 0 Q (F0 m 7 ls []) := by
    intro fu
    induction fu with
    | zero => intro i2_7 s_7 H locs ls ri2_7 hF_7 q7_0 q7_1 v7_0 hm; exact absurd hm (Nat.not_lt_zero _)
    | succ fu ih7 =>
      intro i2_7 s_7 H locs ls ri2_7 hF_7 q7_0 q7_1 v7_0 hm hW hl
      refine x_iload_n hx hb hl 1 rfl dX4_isNight_7 rfl ?_
      refine x_aload_n hx hb hl 0 rfl dX4_isNight_8 rfl ?_
      refine x_get (j := 6) (v := .int (xJ (s_7 109 6))) hx hb hown hT hE hW cls_X4 (Or.inl (by decide)) (so_109 h0 g _) (by decide) rfl wq261 dX4_isNight_9 ?_
      refine x_rd hW (fun x6 ex6 rx6 => ?_)
      have bx6 : 0 ≤ x6 ∧ x6 ≤ 16 := by rw [ex6]; exact (IC.l1 q7_1).2
      refine x_icmp_ge (tgt := 47) hx hb ri2_7 rx6 dX4_isNight_12 (by decide) (fun c7 => ?_) (fun c7 => ?_)
      · skip
        refine x_iconst hx hb dX4_isNight_47 ?_
        rw [eQ]
        exact x_zret hx hb hr hlk hW (by omega) ⟨hF_7, ⟨q7_1, trivial⟩, by omega⟩ dX4_isNight_48
      refine x_aload_n hx hb hl 0 rfl dX4_isNight_15 rfl ?_
      refine x_get (j := 3) (v := .ref (h0 + 112)) hx hb hown hT hE hW cls_X4 (Or.inl (by decide)) (so_109 h0 g _) (by decide) rfl wq255 dX4_isNight_16 ?_
      refine x_iload_n hx hb hl 1 rfl dX4_isNight_19 rfl ?_
      refine x_iald hx hb hE hW (Or.inl (by decide)) (sa_112 h0 g _) (by omega) (by decide) dX4_isNight_20 ?_
      refine x_rd hW (fun x8 ex8 rx8 => ?_)
      refine x_bipush hx hb dX4_isNight_21 (by decide) ?_
      refine x_icmp_ne (tgt := 41) hx hb rx8 (by decide) dX4_isNight_23 (by decide) (fun c9 => ?_) (fun c9 => ?_)
      · skip
        refine x_iinc (lv' := [(2, .int (xJ (i2_7 + 1))), (0, .ref (h0 + 109))]) hx hb hl 1 rfl dX4_isNight_41 (by decide) rfl (fun ls hl => ?_)
        refine lv_goto (tgt := 7) hx hb dX4_isNight_44 (by decide) ?_
        exact ih7 (i2_7 + 1) s_7 H locs ls (by omega) hF_7 q7_0 q7_1 (by omega) (by omega) hW (lv_sub hl [1, 0] rfl)
      refine x_aload_n hx hb hl 0 rfl dX4_isNight_26 rfl ?_
      refine x_aload_n hx hb hl 0 rfl dX4_isNight_27 rfl ?_
      refine x_get (j := 5) (v := .ref (h0 + 114)) hx hb hown hT hE hW cls_X4 (Or.inl (by decide)) (so_109 h0 g _) (by decide) rfl wq259 dX4_isNight_28 ?_
      refine x_iload_n hx hb hl 1 rfl dX4_isNight_31 rfl ?_
      refine x_iald hx hb hE hW (Or.inl (by decide)) (sa_114 h0 g _) (by omega) (by decide) dX4_isNight_32 ?_
      refine x_rd hW (fun x10 ex10 rx10 => ?_)
      refine x_goi (x_runV (As := [.int (xJ x10)]) hx hb hml hown hT hE hW hl.1 (Or.inl (by decide)) (so_109 h0 g _) rfl cf_X4_reckon wq806 wq43 wq804 (c_X4_reckon l D g T h0 s_7 hW.2.1 x10 rx10 q7_1) ⟨rfl, rfl, ⟨by decide, by decide⟩, ⟨by decide, by decide⟩⟩ rfl rfl (Nat.le_of_ble_eq_true rfl) dX4_isNight_33) hW (fun x11 s12 H locs rx11 hp13 hW => ?_)
      obtain ⟨fs12, hp13⟩ := hp13
      have hF14 := hF_7.call fs12 (fun k h => by omega)
      have q15 : s12 1 1 = s0 1 1 := (congrFun (fs12 _ (by omega)) _).trans q7_0
      have ghp13 := hp13.2
      refine x_if_eq (tgt := 41) hx hb rx11 dX4_isNight_36 (by decide) (fun c16 => ?_) (fun c16 => ?_)
      · skip
        refine x_iinc (lv' := [(2, .int (xJ (i2_7 + 1))), (0, .ref (h0 + 109))]) hx hb hl 1 rfl dX4_isNight_41 (by decide) rfl (fun ls hl => ?_)
        refine lv_goto (tgt := 7) hx hb dX4_isNight_44 (by decide) ?_
        exact ih7 (i2_7 + 1) s12 H locs ls (by omega) hF14 q15 hp13.1.1 (by omega) (by omega) hW (lv_sub hl [1, 0] rfl)
      refine x_iconst hx hb dX4_isNight_39 ?_
      rw [eQ]
      exact x_zret hx hb hr hlk hW (by omega) ⟨hF14, ⟨hp13.1.1, trivial⟩, by omega⟩ dX4_isNight_40
  exact L7 ((16 - 0 : Int).toNat + 1) 0 s2 H locs ls (by decide) hF4 q5 hp3.1.1 (by omega) (Nat.lt_succ_self _) hW (lv_sub hl [1, 0] rfl)
set_option maxHeartbeats 4000000 in
set_option maxRecDepth 100000 in
theorem c_X4_worthOf (l : Launch) (D : va_G) (g : xG) (T : Nat × Nat × Nat) (h0 : Nat) (s0 : xS) (hσ : xRR s0) (q : Int) (rq : xR q) (w : Int) (rw : xR w) (p0 : IC s0) : Met l yX4_worthOf (xws yX4_worthOf cX4_worthOf 4 (some .int)) { frames := 2, cells := 0, slots := 0, locals := 50 } (xP [.ref (h0 + 109), .int (xJ q), .int (xJ w)] D g T h0 s0) (xQi D g h0 (fun r τ => xFr (fun k => k = 116) s0 τ ∧ (((IC τ) ∧ True) ∧ (0 ≤ r ∧ (r ≤ w ∨ w < 0))))) 0 0 (xA h0) := by
  refine x_met hσ (by decide) (Nat.le_of_ble_eq_true rfl) ?_
  intro p e s m args below meth c hx hb hr hml hown hT hlk hnm hE hW ls hl
  have hl : lv_has ls 4 [(0, .ref (h0 + 109)), (1, .int (xJ q)), (2, .int (xJ w))] := hl
  obtain ⟨Q, eQ⟩ : ∃ Q, Q = MQ below (xQi D g h0 (fun r τ => xFr (fun k => k = 116) s0 τ ∧ (((IC τ) ∧ True) ∧ (0 ≤ r ∧ (r ≤ w ∨ w < 0))))) args s 0 0 (xA h0) := ⟨_, rfl⟩
  rw [← eQ]
  generalize hHe : ([] : List Loc) = locs at hW ⊢
  obtain ⟨H, eH⟩ : ∃ H, H = s.heap := ⟨_, rfl⟩
  rw [← eH] at hW ⊢
  have hF : xFr (fun k => k = 116) s0 s0 := xFr.rf
  have k1_1 : s0 1 1 = s0 1 1 := rfl
  refine x_iconst hx hb dX4_worthOf_0 ?_
  refine lv_istore_n (lv' := [(3, .int (xJ 0)), (0, .ref (h0 + 109)), (1, .int (xJ q)), (2, .int (xJ w))]) hx hb dX4_worthOf_1 rfl hl (by decide) rfl (fun ls hl => ?_)
  have L2 : ∀ (fu : Nat) (i3_2 : Int) (s_2 : xS) (H : Heap) (locs : List Loc) (ls : Array Slot), (xR i3_2) → (xFr (fun k => k = 116) s0 s_2) → (IC s_2) → (s_2 1 1 = s0 1 1) → (0 ≤ i3_2) → (16 - i3_2).toNat < fu → xW D g h0 s H locs s_2 → lv_has ls 4 [(0, .ref (h0 + 109)), (1, .int (xJ q)), (2, .int (xJ w)), (3, .int (xJ i3_2))] → W p l e { frames := 2, cells := 0, slots := 0, locals := 50 } s m args below meth c H locs 0 0 Q (F0 m 2 ls []) := by
    intro fu
    induction fu with
    | zero => intro i3_2 s_2 H locs ls ri3_2 hF_2 q2_0 q2_1 v2_0 hm; exact absurd hm (Nat.not_lt_zero _)
    | succ fu ih2 =>
      intro i3_2 s_2 H locs ls ri3_2 hF_2 q2_0 q2_1 v2_0 hm hW hl
      refine x_iload_n hx hb hl 3 rfl dX4_worthOf_2 rfl ?_
      refine x_aload_n hx hb hl 0 rfl dX4_worthOf_3 rfl ?_
      refine x_get (j := 6) (v := .int (xJ (s_2 109 6))) hx hb hown hT hE hW cls_X4 (Or.inl (by decide)) (so_109 h0 g _) (by decide) rfl wq261 dX4_worthOf_4 ?_
      refine x_rd hW (fun x1 ex1 rx1 => ?_)
      have bx1 : 0 ≤ x1 ∧ x1 ≤ 16 := by rw [ex1]; exact (IC.l1 q2_0).2
      refine x_icmp_ge (tgt := 58) hx hb ri3_2 rx1 dX4_worthOf_7 (by decide) (fun c2 => ?_) (fun c2 => ?_)
      · skip
        refine x_iconst hx hb dX4_worthOf_58 ?_
        rw [eQ]
        exact x_iret hx hb hr hlk hW (by decide) ⟨hF_2, ⟨q2_0, trivial⟩, by omega⟩ dX4_worthOf_59
      refine x_aload_n hx hb hl 0 rfl dX4_worthOf_10 rfl ?_
      refine x_get (j := 3) (v := .ref (h0 + 112)) hx hb hown hT hE hW cls_X4 (Or.inl (by decide)) (so_109 h0 g _) (by decide) rfl wq255 dX4_worthOf_11 ?_
      refine x_iload_n hx hb hl 3 rfl dX4_worthOf_14 rfl ?_
      refine x_iald hx hb hE hW (Or.inl (by decide)) (sa_112 h0 g _) (by omega) (by decide) dX4_worthOf_15 ?_
      refine x_rd hW (fun x3 ex3 rx3 => ?_)
      refine x_iload_n hx hb hl 1 rfl dX4_worthOf_16 rfl ?_
      refine x_icmp_ne (tgt := 52) hx hb rx3 rq dX4_worthOf_17 (by decide) (fun c4 => ?_) (fun c4 => ?_)
      · skip
        refine x_iinc (lv' := [(3, .int (xJ (i3_2 + 1))), (0, .ref (h0 + 109)), (1, .int (xJ q)), (2, .int (xJ w))]) hx hb hl 3 rfl dX4_worthOf_52 (by decide) rfl (fun ls hl => ?_)
        refine lv_goto (tgt := 2) hx hb dX4_worthOf_55 (by decide) ?_
        exact ih2 (i3_2 + 1) s_2 H locs ls (by omega) hF_2 q2_0 q2_1 (by omega) (by omega) hW (lv_sub hl [1, 2, 3, 0] rfl)
      refine x_aload_n hx hb hl 0 rfl dX4_worthOf_20 rfl ?_
      refine x_aload_n hx hb hl 0 rfl dX4_worthOf_21 rfl ?_
      refine x_get (j := 5) (v := .ref (h0 + 114)) hx hb hown hT hE hW cls_X4 (Or.inl (by decide)) (so_109 h0 g _) (by decide) rfl wq259 dX4_worthOf_22 ?_
      refine x_iload_n hx hb hl 3 rfl dX4_worthOf_25 rfl ?_
      refine x_iald hx hb hE hW (Or.inl (by decide)) (sa_114 h0 g _) (by omega) (by decide) dX4_worthOf_26 ?_
      refine x_rd hW (fun x5 ex5 rx5 => ?_)
      refine x_goi (x_runV (As := [.int (xJ x5)]) hx hb hml hown hT hE hW hl.1 (Or.inl (by decide)) (so_109 h0 g _) rfl cf_X4_reckon wq806 wq43 wq804 (c_X4_reckon l D g T h0 s_2 hW.2.1 x5 rx5 q2_0) ⟨rfl, rfl, ⟨by decide, by decide⟩, ⟨by decide, by decide⟩⟩ rfl rfl (Nat.le_of_ble_eq_true rfl) dX4_worthOf_27) hW (fun x6 s7 H locs rx6 hp8 hW => ?_)
      obtain ⟨fs7, hp8⟩ := hp8
      have hF9 := hF_2.call fs7 (fun k h => by omega)
      have q10 : s7 1 1 = s0 1 1 := (congrFun (fs7 _ (by omega)) _).trans q2_1
      have ghp8 := hp8.2
      refine x_if_eq (tgt := 52) hx hb rx6 dX4_worthOf_30 (by decide) (fun c11 => ?_) (fun c11 => ?_)
      · skip
        refine x_iinc (lv' := [(3, .int (xJ (i3_2 + 1))), (0, .ref (h0 + 109)), (1, .int (xJ q)), (2, .int (xJ w))]) hx hb hl 3 rfl dX4_worthOf_52 (by decide) rfl (fun ls hl => ?_)
        refine lv_goto (tgt := 2) hx hb dX4_worthOf_55 (by decide) ?_
        exact ih2 (i3_2 + 1) s7 H locs ls (by omega) hF9 hp8.1.1 q10 (by omega) (by omega) hW (lv_sub hl [1, 2, 3, 0] rfl)
      refine x_iconst hx hb dX4_worthOf_33 ?_
      refine x_iload_n hx hb hl 2 rfl dX4_worthOf_34 rfl ?_
      refine x_aload_n hx hb hl 0 rfl dX4_worthOf_35 rfl ?_
      refine x_aload_n hx hb hl 0 rfl dX4_worthOf_36 rfl ?_
      refine x_get (j := 4) (v := .ref (h0 + 113)) hx hb hown hT hE hW cls_X4 (Or.inl (by decide)) (so_109 h0 g _) (by decide) rfl wq257 dX4_worthOf_37 ?_
      refine x_iload_n hx hb hl 3 rfl dX4_worthOf_40 rfl ?_
      refine x_iald hx hb hE hW (Or.inl (by decide)) (sa_113 h0 g _) (by omega) (by decide) dX4_worthOf_41 ?_
      refine x_rd hW (fun x12 ex12 rx12 => ?_)
      refine x_goi (x_runV (As := [.int (xJ x12)]) hx hb hml hown hT hE hW hl.1 (Or.inl (by decide)) (so_109 h0 g _) rfl cf_X4_reckon wq806 wq43 wq804 (c_X4_reckon l D g T h0 s7 hW.2.1 x12 rx12 hp8.1.1) ⟨rfl, rfl, ⟨by decide, by decide⟩, ⟨by decide, by decide⟩⟩ rfl rfl (Nat.le_of_ble_eq_true rfl) dX4_worthOf_42) hW (fun x13 s14 H locs rx13 hp15 hW => ?_)
      obtain ⟨fs14, hp15⟩ := hp15
      have hF16 := hF9.call fs14 (fun k h => by omega)
      have q17 : s14 1 1 = s0 1 1 := (congrFun (fs14 _ (by omega)) _).trans q10
      have ghp15 := hp15.2
      refine x_mmin hx hb hml hl.1 hown hT wq815 wq569 wq180 wq570 ⟨by decide, Nat.le_of_ble_eq_true rfl, by decide, by decide⟩ rw rx13 dX4_worthOf_45 ?_
      refine x_nm (fun x18 ex18 => ?_)
      have fx18 : (x18 = w ∧ w ≤ x13) ∨ (x18 = x13 ∧ x13 ≤ w) := by rw [ex18]; split <;> omega
      refine x_mmax hx hb hml hl.1 hown hT wq816 wq594 wq180 wq595 ⟨by decide, Nat.le_of_ble_eq_true rfl, by decide, by decide⟩ (by decide) (by omega) dX4_worthOf_48 ?_
      refine x_nm (fun x19 ex19 => ?_)
      have fx19 : (x19 = 0 ∧ x18 ≤ 0) ∨ (x19 = x18 ∧ 0 ≤ x18) := by rw [ex19]; split <;> omega
      rw [eQ]
      exact x_iret hx hb hr hlk hW (by omega) ⟨hF16, ⟨hp15.1.1, trivial⟩, by omega⟩ dX4_worthOf_51
  exact L2 ((16 - 0 : Int).toNat + 1) 0 s0 H locs ls (by decide) hF p0 k1_1 (by omega) (Nat.lt_succ_self _) hW (lv_sub hl [1, 2, 3, 0] rfl)
