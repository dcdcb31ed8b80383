theorem b_X8_1 (l : Launch) (D : va_G) (g : xG) (T : Nat × Nat × Nat) (h0 : Nat) : Met l yX8_init (xws yX8_init cX8_init 1 none) { frames := 1, cells := 1, slots := 260, locals := 20 } (bP [.ref (h0 + 1)] D g T (h0 + 1) (.inr (8, fz_X8))) (bQ D (h0 + 1) 2 (fun k => xcel h0 g xI (1 + k))) 1 260 (xA (h0 + 1)) := by
  refine b_met (by decide) (Nat.le_of_ble_eq_true rfl) ?_
  intro p e s m args below meth c hx hb hr hml hown hT hlk hnm hE hO hB ls hl
  have hl : lv_has ls 1 [(0, .ref (h0 + 1))] := hl
  obtain ⟨Q, eQ⟩ : ∃ Q, Q = MQ below (bQ D (h0 + 1) 2 (fun k => xcel h0 g xI (1 + k))) args s 1 260 (xA (h0 + 1)) := ⟨_, rfl⟩
  rw [← eQ]
  generalize hHe : ([] : List Loc) = locs at hB ⊢
  obtain ⟨H, eH⟩ : ∃ H, H = s.heap := ⟨_, rfl⟩
  rw [← eH] at hB ⊢
  refine x_aload_n hx hb hl 0 rfl dX8_init_0 rfl ?_
  refine b_obj hx hb (hml.trans hl.1.symm) hown hT bo195 bo_inst bo_code (by decide) (Nat.le_of_ble_eq_true rfl) dX8_init_1 ?_
  refine x_aload_n hx hb hl 0 rfl dX8_init_4 rfl ?_
  refine x_sipush hx hb dX8_init_5 (by decide) ?_
  refine b_newaI (N := 260) hx hb hT hE hB wq217 rfl (by decide) (by decide) (by decide) dX8_init_8 (fun H hB => ?_)
  have hB := bB_n (n1 := 2) rfl hB
  refine b_putF (j := 0) hx hb hown hT hE hB cls_X8 0 (by decide) rfl (by decide) (Nat.le_of_ble_eq_true rfl) rfl wq196 rfl hnm rfl rfl rfl dX8_init_10 (fun H locs hB => ?_)
  refine x_aload_n hx hb hl 0 rfl dX8_init_13 rfl ?_
  refine x_iconst hx hb dX8_init_14 ?_
  refine b_put (j := 1) hx hb hown hT hE hB cls_X8 0 (by decide) rfl (by decide) (Nat.le_of_ble_eq_true rfl) rfl wq197 rfl rfl rfl dX8_init_15 (fun H locs hB => ?_)
  refine x_aload_n hx hb hl 0 rfl dX8_init_18 rfl ?_
  refine x_iconst hx hb dX8_init_19 ?_
  refine b_put (j := 2) hx hb hown hT hE hB cls_X8 0 (by decide) rfl (by decide) (Nat.le_of_ble_eq_true rfl) rfl wq199 rfl rfl rfl dX8_init_20 (fun H locs hB => ?_)
  refine x_aload_n hx hb hl 0 rfl dX8_init_23 rfl ?_
  refine x_iconst hx hb dX8_init_24 ?_
  refine b_put (j := 3) hx hb hown hT hE hB cls_X8 0 (by decide) rfl (by decide) (Nat.le_of_ble_eq_true rfl) rfl wq200 rfl rfl rfl dX8_init_25 (fun H locs hB => ?_)
  refine x_aload_n hx hb hl 0 rfl dX8_init_28 rfl ?_
  refine x_iconst hx hb dX8_init_29 ?_
  refine b_put (j := 4) hx hb hown hT hE hB cls_X8 0 (by decide) rfl (by decide) (Nat.le_of_ble_eq_true rfl) rfl wq204 rfl rfl rfl dX8_init_30 (fun H locs hB => ?_)
  subst eQ
  refine b_vret hx hb hr hlk hB ?_ rfl rfl dX8_init_33
  refine allS ?_ rfl
  refine allS ?_ rfl
  exact allZ
theorem b_X6_3 (l : Launch) (D : va_G) (g : xG) (T : Nat × Nat × Nat) (h0 : Nat) : Met l yX6_init (xws yX6_init cX6_init 1 none) { frames := 1, cells := 105, slots := 10500, locals := 20 } (bP [.ref (h0 + 3)] D g T (h0 + 3) (.inr (6, fz_X6))) (bQ D (h0 + 3) 106 (fun k => xcel h0 g xI (3 + k))) 105 10500 (xA (h0 + 3)) := by
  refine b_met (by decide) (Nat.le_of_ble_eq_true rfl) ?_
  intro p e s m args below meth c hx hb hr hml hown hT hlk hnm hE hO hB ls hl
  have hl : lv_has ls 1 [(0, .ref (h0 + 3))] := hl
  obtain ⟨Q, eQ⟩ : ∃ Q, Q = MQ below (bQ D (h0 + 3) 106 (fun k => xcel h0 g xI (3 + k))) args s 105 10500 (xA (h0 + 3)) := ⟨_, rfl⟩
  rw [← eQ]
  generalize hHe : ([] : List Loc) = locs at hB ⊢
  obtain ⟨H, eH⟩ : ∃ H, H = s.heap := ⟨_, rfl⟩
  rw [← eH] at hB ⊢
  refine x_aload_n hx hb hl 0 rfl dX6_init_0 rfl ?_
  refine b_obj hx hb (hml.trans hl.1.symm) hown hT bo223 bo_inst bo_code (by decide) (Nat.le_of_ble_eq_true rfl) dX6_init_1 ?_
  refine x_aload_n hx hb hl 0 rfl dX6_init_4 rfl ?_
  refine x_bipush hx hb dX6_init_5 (by decide) ?_
  refine b_newaI (N := 100) hx hb hT hE hB wq217 rfl (by decide) (by decide) (by decide) dX6_init_7 (fun H hB => ?_)
  have hB := bB_n (n1 := 2) rfl hB
  refine b_putF (j := 0) hx hb hown hT hE hB cls_X6 0 (by decide) rfl (by decide) (Nat.le_of_ble_eq_true rfl) rfl wq226 rfl hnm rfl rfl rfl dX6_init_9 (fun H locs hB => ?_)
  refine x_aload_n hx hb hl 0 rfl dX6_init_12 rfl ?_
  refine x_bipush hx hb dX6_init_13 (by decide) ?_
  refine b_newaI (N := 100) hx hb hT hE hB wq217 rfl (by decide) (by decide) (by decide) dX6_init_15 (fun H hB => ?_)
  have hB := bB_n (n1 := 3) rfl hB
  refine b_putF (j := 1) hx hb hown hT hE hB cls_X6 0 (by decide) rfl (by decide) (Nat.le_of_ble_eq_true rfl) rfl wq227 rfl hnm rfl rfl rfl dX6_init_17 (fun H locs hB => ?_)
  refine x_aload_n hx hb hl 0 rfl dX6_init_20 rfl ?_
  refine x_bipush hx hb dX6_init_21 (by decide) ?_
  refine x_bipush hx hb dX6_init_23 (by decide) ?_
  refine b_mna (N := 100) (K := 100) hx hb hown hT hE hB wq224 hO wq217 rfl rfl (by decide) (by decide) (by decide) dX6_init_25 (fun H hB => ?_)
  have hB := bB_n (n1 := 104) rfl hB
  have hB := bB_arq (k := 3) (f' := fun j => some (h0 + xrow xI 6 j)) hB rfl (fun j hj => by rw [if_pos hj]; show some _ = some (h0 + (7 + j)); congr 1; omega)
  refine b_putF (j := 2) hx hb hown hT hE hB cls_X6 0 (by decide) rfl (by decide) (Nat.le_of_ble_eq_true rfl) rfl wq228 rfl hnm rfl rfl rfl dX6_init_29 (fun H locs hB => ?_)
  refine x_aload_n hx hb hl 0 rfl dX6_init_32 rfl ?_
  refine x_bipush hx hb dX6_init_33 (by decide) ?_
  refine b_newaZ (N := 100) hx hb hT hE hB wq242 rfl (by decide) (by decide) (by decide) dX6_init_35 (fun H hB => ?_)
  have hB := bB_n (n1 := 105) rfl hB
  refine b_putF (j := 3) hx hb hown hT hE hB cls_X6 0 (by decide) rfl (by decide) (Nat.le_of_ble_eq_true rfl) rfl wq229 rfl hnm rfl rfl rfl dX6_init_37 (fun H locs hB => ?_)
  refine x_aload_n hx hb hl 0 rfl dX6_init_40 rfl ?_
  refine x_bipush hx hb dX6_init_41 (by decide) ?_
  refine b_newaI (N := 100) hx hb hT hE hB wq217 rfl (by decide) (by decide) (by decide) dX6_init_43 (fun H hB => ?_)
  have hB := bB_n (n1 := 106) rfl hB
  refine b_putF (j := 4) hx hb hown hT hE hB cls_X6 0 (by decide) rfl (by decide) (Nat.le_of_ble_eq_true rfl) rfl wq230 rfl hnm rfl rfl rfl dX6_init_45 (fun H locs hB => ?_)
  subst eQ
  refine b_vret hx hb hr hlk hB ?_ rfl rfl dX6_init_48
  refine allS ?_ rfl
  refine allS ?_ rfl
  refine allS ?_ rfl
  refine allS ?_ rfl
  refine allS ?_ rfl
  refine allS ?_ rfl
  refine allS ?_ rfl
  refine allS ?_ rfl
  refine allS ?_ rfl
  refine allS ?_ rfl
  refine allS ?_ rfl
  refine allS ?_ rfl
  refine allS ?_ rfl
  refine allS ?_ rfl
  refine allS ?_ rfl
  refine allS ?_ rfl
  refine allS ?_ rfl
  refine allS ?_ rfl
  refine allS ?_ rfl
  refine allS ?_ rfl
  refine allS ?_ rfl
  refine allS ?_ rfl
  refine allS ?_ rfl
  refine allS ?_ rfl
  refine allS ?_ rfl
  refine allS ?_ rfl
  refine allS ?_ rfl
  refine allS ?_ rfl
  refine allS ?_ rfl
  refine allS ?_ rfl
  refine allS ?_ rfl
  refine allS ?_ rfl
  refine allS ?_ rfl
  refine allS ?_ rfl
  refine allS ?_ rfl
  refine allS ?_ rfl
  refine allS ?_ rfl
  refine allS ?_ rfl
  refine allS ?_ rfl
  refine allS ?_ rfl
  refine allS ?_ rfl
  refine allS ?_ rfl
  refine allS ?_ rfl
  refine allS ?_ rfl
  refine allS ?_ rfl
  refine allS ?_ rfl
  refine allS ?_ rfl
  refine allS ?_ rfl
  refine allS ?_ rfl
  refine allS ?_ rfl
  refine allS ?_ rfl
  refine allS ?_ rfl
  refine allS ?_ rfl
  refine allS ?_ rfl
  refine allS ?_ rfl
  refine allS ?_ rfl
  refine allS ?_ rfl
  refine allS ?_ rfl
  refine allS ?_ rfl
  refine allS ?_ rfl
  refine allS ?_ rfl
  refine allS ?_ rfl
  refine allS ?_ rfl
  refine allS ?_ rfl
  refine allS ?_ rfl
  refine allS ?_ rfl
  refine allS ?_ rfl
  refine allS ?_ rfl
  refine allS ?_ rfl
  refine allS ?_ rfl
  refine allS ?_ rfl
  refine allS ?_ rfl
  refine allS ?_ rfl
  refine allS ?_ rfl
  refine allS ?_ rfl
  refine allS ?_ rfl
  refine allS ?_ rfl
  refine allS ?_ rfl
  refine allS ?_ rfl
  refine allS ?_ rfl
  refine allS ?_ rfl
  refine allS ?_ rfl
  refine allS ?_ rfl
  refine allS ?_ rfl
  refine allS ?_ rfl
  refine allS ?_ rfl
  refine allS ?_ rfl
  refine allS ?_ rfl
  refine allS ?_ rfl
  refine allS ?_ rfl
  refine allS ?_ rfl
  refine allS ?_ rfl
  refine allS ?_ rfl
  refine allS ?_ rfl
  refine allS ?_ rfl
  refine allS ?_ rfl
  refine allS ?_ rfl
  refine allS ?_ rfl
  refine allS ?_ rfl
  refine allS ?_ rfl
  refine allS ?_ rfl
  refine allS ?_ rfl
  refine allS ?_ rfl
  refine allS ?_ rfl
  refine allS ?_ rfl
  refine allS ?_ rfl
  exact allZ
theorem b_X4_109 (l : Launch) (D : va_G) (g : xG) (T : Nat × Nat × Nat) (h0 : Nat) : Met l yX4_init (xws yX4_init cX4_init 1 none) { frames := 1, cells := 7, slots := 719, locals := 20 } (bP [.ref (h0 + 109)] D g T (h0 + 109) (.inr (4, fz_X4))) (bQ D (h0 + 109) 8 (fun k => xcel h0 g xI (109 + k))) 7 719 (xA (h0 + 109)) := by
  refine b_met (by decide) (Nat.le_of_ble_eq_true rfl) ?_
  intro p e s m args below meth c hx hb hr hml hown hT hlk hnm hE hO hB ls hl
  have hl : lv_has ls 1 [(0, .ref (h0 + 109))] := hl
  obtain ⟨Q, eQ⟩ : ∃ Q, Q = MQ below (bQ D (h0 + 109) 8 (fun k => xcel h0 g xI (109 + k))) args s 7 719 (xA (h0 + 109)) := ⟨_, rfl⟩
  rw [← eQ]
  generalize hHe : ([] : List Loc) = locs at hB ⊢
  obtain ⟨H, eH⟩ : ∃ H, H = s.heap := ⟨_, rfl⟩
  rw [← eH] at hB ⊢
  refine x_aload_n hx hb hl 0 rfl dX4_init_0 rfl ?_
  refine b_obj hx hb (hml.trans hl.1.symm) hown hT bo248 bo_inst bo_code (by decide) (Nat.le_of_ble_eq_true rfl) dX4_init_1 ?_
  refine x_aload_n hx hb hl 0 rfl dX4_init_4 rfl ?_
  refine x_sipush hx hb dX4_init_5 (by decide) ?_
  refine b_newaI (N := 300) hx hb hT hE hB wq217 rfl (by decide) (by decide) (by decide) dX4_init_8 (fun H hB => ?_)
  have hB := bB_n (n1 := 2) rfl hB
  refine b_putF (j := 0) hx hb hown hT hE hB cls_X4 0 (by decide) rfl (by decide) (Nat.le_of_ble_eq_true rfl) rfl wq251 rfl hnm rfl rfl rfl dX4_init_10 (fun H locs hB => ?_)
  refine x_aload_n hx hb hl 0 rfl dX4_init_13 rfl ?_
  refine x_sipush hx hb dX4_init_14 (by decide) ?_
  refine b_newaI (N := 300) hx hb hT hE hB wq217 rfl (by decide) (by decide) (by decide) dX4_init_17 (fun H hB => ?_)
  have hB := bB_n (n1 := 3) rfl hB
  refine b_putF (j := 1) hx hb hown hT hE hB cls_X4 0 (by decide) rfl (by decide) (Nat.le_of_ble_eq_true rfl) rfl wq252 rfl hnm rfl rfl rfl dX4_init_19 (fun H locs hB => ?_)
  refine x_aload_n hx hb hl 0 rfl dX4_init_22 rfl ?_
  refine x_iconst hx hb dX4_init_23 ?_
  refine b_put (j := 2) hx hb hown hT hE hB cls_X4 0 (by decide) rfl (by decide) (Nat.le_of_ble_eq_true rfl) rfl wq253 rfl rfl rfl dX4_init_24 (fun H locs hB => ?_)
  refine x_aload_n hx hb hl 0 rfl dX4_init_27 rfl ?_
  refine x_bipush hx hb dX4_init_28 (by decide) ?_
  refine b_newaI (N := 16) hx hb hT hE hB wq217 rfl (by decide) (by decide) (by decide) dX4_init_30 (fun H hB => ?_)
  have hB := bB_n (n1 := 4) rfl hB
  refine b_putF (j := 3) hx hb hown hT hE hB cls_X4 0 (by decide) rfl (by decide) (Nat.le_of_ble_eq_true rfl) rfl wq255 rfl hnm rfl rfl rfl dX4_init_32 (fun H locs hB => ?_)
  refine x_aload_n hx hb hl 0 rfl dX4_init_35 rfl ?_
  refine x_bipush hx hb dX4_init_36 (by decide) ?_
  refine b_newaI (N := 16) hx hb hT hE hB wq217 rfl (by decide) (by decide) (by decide) dX4_init_38 (fun H hB => ?_)
  have hB := bB_n (n1 := 5) rfl hB
  refine b_putF (j := 4) hx hb hown hT hE hB cls_X4 0 (by decide) rfl (by decide) (Nat.le_of_ble_eq_true rfl) rfl wq257 rfl hnm rfl rfl rfl dX4_init_40 (fun H locs hB => ?_)
  refine x_aload_n hx hb hl 0 rfl dX4_init_43 rfl ?_
  refine x_bipush hx hb dX4_init_44 (by decide) ?_
  refine b_newaI (N := 16) hx hb hT hE hB wq217 rfl (by decide) (by decide) (by decide) dX4_init_46 (fun H hB => ?_)
  have hB := bB_n (n1 := 6) rfl hB
  refine b_putF (j := 5) hx hb hown hT hE hB cls_X4 0 (by decide) rfl (by decide) (Nat.le_of_ble_eq_true rfl) rfl wq259 rfl hnm rfl rfl rfl dX4_init_48 (fun H locs hB => ?_)
  refine x_aload_n hx hb hl 0 rfl dX4_init_51 rfl ?_
  refine x_iconst hx hb dX4_init_52 ?_
  refine b_put (j := 6) hx hb hown hT hE hB cls_X4 0 (by decide) rfl (by decide) (Nat.le_of_ble_eq_true rfl) rfl wq261 rfl rfl rfl dX4_init_53 (fun H locs hB => ?_)
  refine x_aload_n hx hb hl 0 rfl dX4_init_56 rfl ?_
  refine va_gets hx hb hE.2.2.2.2.1 hB.2 hown (hT _ wq249) (fun _ h9 => h9) dX4_init_57 ?_
  refine va_tlen (v := xJ 7) hx hb hE.2.2.2.2.2 hB.2 rfl dX4_init_60 ?_
  refine b_newaI (N := 7) hx hb hT hE hB wq217 rfl (by decide) (by decide) (by decide) dX4_init_61 (fun H hB => ?_)
  have hB := bB_n (n1 := 7) rfl hB
  refine b_putF (j := 7) hx hb hown hT hE hB cls_X4 0 (by decide) rfl (by decide) (Nat.le_of_ble_eq_true rfl) rfl wq264 rfl hnm rfl rfl rfl dX4_init_63 (fun H locs hB => ?_)
  refine x_aload_n hx hb hl 0 rfl dX4_init_66 rfl ?_
  refine x_bipush hx hb dX4_init_67 (by decide) ?_
  refine b_newaI (N := 64) hx hb hT hE hB wq217 rfl (by decide) (by decide) (by decide) dX4_init_69 (fun H hB => ?_)
  have hB := bB_n (n1 := 8) rfl hB
  refine b_putF (j := 8) hx hb hown hT hE hB cls_X4 0 (by decide) rfl (by decide) (Nat.le_of_ble_eq_true rfl) rfl wq265 rfl hnm rfl rfl rfl dX4_init_71 (fun H locs hB => ?_)
  subst eQ
  refine b_vret hx hb hr hlk hB ?_ rfl rfl dX4_init_74
  refine allS ?_ rfl
  refine allS ?_ rfl
  refine allS ?_ rfl
  refine allS ?_ rfl
  refine allS ?_ rfl
  refine allS ?_ rfl
  refine allS ?_ rfl
  refine allS ?_ rfl
  exact allZ
theorem b_X4_118 (l : Launch) (D : va_G) (g : xG) (T : Nat × Nat × Nat) (h0 : Nat) : Met l yX4_init (xws yX4_init cX4_init 1 none) { frames := 1, cells := 7, slots := 719, locals := 20 } (bP [.ref (h0 + 118)] D g T (h0 + 118) (.inr (4, fz_X4))) (bQ D (h0 + 118) 8 (fun k => xcel h0 g xI (118 + k))) 7 719 (xA (h0 + 118)) := by
  refine b_met (by decide) (Nat.le_of_ble_eq_true rfl) ?_
  intro p e s m args below meth c hx hb hr hml hown hT hlk hnm hE hO hB ls hl
  have hl : lv_has ls 1 [(0, .ref (h0 + 118))] := hl
  obtain ⟨Q, eQ⟩ : ∃ Q, Q = MQ below (bQ D (h0 + 118) 8 (fun k => xcel h0 g xI (118 + k))) args s 7 719 (xA (h0 + 118)) := ⟨_, rfl⟩
  rw [← eQ]
  generalize hHe : ([] : List Loc) = locs at hB ⊢
  obtain ⟨H, eH⟩ : ∃ H, H = s.heap := ⟨_, rfl⟩
  rw [← eH] at hB ⊢
  refine x_aload_n hx hb hl 0 rfl dX4_init_0 rfl ?_
  refine b_obj hx hb (hml.trans hl.1.symm) hown hT bo248 bo_inst bo_code (by decide) (Nat.le_of_ble_eq_true rfl) dX4_init_1 ?_
  refine x_aload_n hx hb hl 0 rfl dX4_init_4 rfl ?_
  refine x_sipush hx hb dX4_init_5 (by decide) ?_
  refine b_newaI (N := 300) hx hb hT hE hB wq217 rfl (by decide) (by decide) (by decide) dX4_init_8 (fun H hB => ?_)
  have hB := bB_n (n1 := 2) rfl hB
  refine b_putF (j := 0) hx hb hown hT hE hB cls_X4 0 (by decide) rfl (by decide) (Nat.le_of_ble_eq_true rfl) rfl wq251 rfl hnm rfl rfl rfl dX4_init_10 (fun H locs hB => ?_)
  refine x_aload_n hx hb hl 0 rfl dX4_init_13 rfl ?_
  refine x_sipush hx hb dX4_init_14 (by decide) ?_
  refine b_newaI (N := 300) hx hb hT hE hB wq217 rfl (by decide) (by decide) (by decide) dX4_init_17 (fun H hB => ?_)
  have hB := bB_n (n1 := 3) rfl hB
  refine b_putF (j := 1) hx hb hown hT hE hB cls_X4 0 (by decide) rfl (by decide) (Nat.le_of_ble_eq_true rfl) rfl wq252 rfl hnm rfl rfl rfl dX4_init_19 (fun H locs hB => ?_)
  refine x_aload_n hx hb hl 0 rfl dX4_init_22 rfl ?_
  refine x_iconst hx hb dX4_init_23 ?_
  refine b_put (j := 2) hx hb hown hT hE hB cls_X4 0 (by decide) rfl (by decide) (Nat.le_of_ble_eq_true rfl) rfl wq253 rfl rfl rfl dX4_init_24 (fun H locs hB => ?_)
  refine x_aload_n hx hb hl 0 rfl dX4_init_27 rfl ?_
  refine x_bipush hx hb dX4_init_28 (by decide) ?_
  refine b_newaI (N := 16) hx hb hT hE hB wq217 rfl (by decide) (by decide) (by decide) dX4_init_30 (fun H hB => ?_)
  have hB := bB_n (n1 := 4) rfl hB
  refine b_putF (j := 3) hx hb hown hT hE hB cls_X4 0 (by decide) rfl (by decide) (Nat.le_of_ble_eq_true rfl) rfl wq255 rfl hnm rfl rfl rfl dX4_init_32 (fun H locs hB => ?_)
  refine x_aload_n hx hb hl 0 rfl dX4_init_35 rfl ?_
  refine x_bipush hx hb dX4_init_36 (by decide) ?_
  refine b_newaI (N := 16) hx hb hT hE hB wq217 rfl (by decide) (by decide) (by decide) dX4_init_38 (fun H hB => ?_)
  have hB := bB_n (n1 := 5) rfl hB
  refine b_putF (j := 4) hx hb hown hT hE hB cls_X4 0 (by decide) rfl (by decide) (Nat.le_of_ble_eq_true rfl) rfl wq257 rfl hnm rfl rfl rfl dX4_init_40 (fun H locs hB => ?_)
  refine x_aload_n hx hb hl 0 rfl dX4_init_43 rfl ?_
  refine x_bipush hx hb dX4_init_44 (by decide) ?_
  refine b_newaI (N := 16) hx hb hT hE hB wq217 rfl (by decide) (by decide) (by decide) dX4_init_46 (fun H hB => ?_)
  have hB := bB_n (n1 := 6) rfl hB
  refine b_putF (j := 5) hx hb hown hT hE hB cls_X4 0 (by decide) rfl (by decide) (Nat.le_of_ble_eq_true rfl) rfl wq259 rfl hnm rfl rfl rfl dX4_init_48 (fun H locs hB => ?_)
  refine x_aload_n hx hb hl 0 rfl dX4_init_51 rfl ?_
  refine x_iconst hx hb dX4_init_52 ?_
  refine b_put (j := 6) hx hb hown hT hE hB cls_X4 0 (by decide) rfl (by decide) (Nat.le_of_ble_eq_true rfl) rfl wq261 rfl rfl rfl dX4_init_53 (fun H locs hB => ?_)
  refine x_aload_n hx hb hl 0 rfl dX4_init_56 rfl ?_
  refine va_gets hx hb hE.2.2.2.2.1 hB.2 hown (hT _ wq249) (fun _ h9 => h9) dX4_init_57 ?_
  refine va_tlen (v := xJ 7) hx hb hE.2.2.2.2.2 hB.2 rfl dX4_init_60 ?_
  refine b_newaI (N := 7) hx hb hT hE hB wq217 rfl (by decide) (by decide) (by decide) dX4_init_61 (fun H hB => ?_)
  have hB := bB_n (n1 := 7) rfl hB
  refine b_putF (j := 7) hx hb hown hT hE hB cls_X4 0 (by decide) rfl (by decide) (Nat.le_of_ble_eq_true rfl) rfl wq264 rfl hnm rfl rfl rfl dX4_init_63 (fun H locs hB => ?_)
  refine x_aload_n hx hb hl 0 rfl dX4_init_66 rfl ?_
  refine x_bipush hx hb dX4_init_67 (by decide) ?_
  refine b_newaI (N := 64) hx hb hT hE hB wq217 rfl (by decide) (by decide) (by decide) dX4_init_69 (fun H hB => ?_)
  have hB := bB_n (n1 := 8) rfl hB
  refine b_putF (j := 8) hx hb hown hT hE hB cls_X4 0 (by decide) rfl (by decide) (Nat.le_of_ble_eq_true rfl) rfl wq265 rfl hnm rfl rfl rfl dX4_init_71 (fun H locs hB => ?_)
  subst eQ
  refine b_vret hx hb hr hlk hB ?_ rfl rfl dX4_init_74
  refine allS ?_ rfl
  refine allS ?_ rfl
  refine allS ?_ rfl
  refine allS ?_ rfl
  refine allS ?_ rfl
  refine allS ?_ rfl
  refine allS ?_ rfl
  refine allS ?_ rfl
  exact allZ
theorem b_X5_117 (l : Launch) (D : va_G) (g : xG) (T : Nat × Nat × Nat) (h0 : Nat) : Met l yX5_init (xws yX5_init cX5_init 2 none) { frames := 2, cells := 8, slots := 728, locals := 40 } (bP [.ref (h0 + 117), .ref (h0 + 1)] D g T (h0 + 117) (.inr (5, fz_X5))) (bQ D (h0 + 117) 9 (fun k => xcel h0 g xI (117 + k))) 8 728 (xA (h0 + 117)) := by
  refine b_met (by decide) (Nat.le_of_ble_eq_true rfl) ?_
  intro p e s m args below meth c hx hb hr hml hown hT hlk hnm hE hO hB ls hl
  have hl : lv_has ls 2 [(0, .ref (h0 + 117)), (1, .ref (h0 + 1))] := hl
  obtain ⟨Q, eQ⟩ : ∃ Q, Q = MQ below (bQ D (h0 + 117) 9 (fun k => xcel h0 g xI (117 + k))) args s 8 728 (xA (h0 + 117)) := ⟨_, rfl⟩
  rw [← eQ]
  generalize hHe : ([] : List Loc) = locs at hB ⊢
  obtain ⟨H, eH⟩ : ∃ H, H = s.heap := ⟨_, rfl⟩
  rw [← eH] at hB ⊢
  refine x_aload_n hx hb hl 0 rfl dX5_init_0 rfl ?_
  refine b_obj hx hb (hml.trans hl.1.symm) hown hT bo290 bo_inst bo_code (by decide) (Nat.le_of_ble_eq_true rfl) dX5_init_1 ?_
  refine x_aload_n hx hb hl 0 rfl dX5_init_4 rfl ?_
  refine x_aload_n hx hb hl 1 rfl dX5_init_5 rfl ?_
  refine b_putF (j := 0) hx hb hown hT hE hB cls_X5 0 (by decide) rfl (by decide) (Nat.le_of_ble_eq_true rfl) rfl wq293 rfl hnm rfl rfl rfl dX5_init_6 (fun H locs hB => ?_)
  refine x_aload_n hx hb hl 0 rfl dX5_init_9 rfl ?_
  refine b_new hx hb hown hT hE hB cls_X4 bz_X4 wq291 wq244 wq171 (by decide) (by decide) dX5_init_10 (fun H hB => ?_)
  have hB := bB_n (n1 := 2) rfl hB
  refine lv_dup hx hb dX5_init_13 rfl ?_
  refine b_go (b := h0 + 117) (n := 1) (b_runN (b := h0 + 117) (n := 1) (As := []) hx hb hml hown hT hE hO hB rfl hl.1 cf_X4_init wq246 rfl wn292 (b_X4_118 l D g T h0) ⟨rfl, rfl, ⟨by decide, by decide⟩, ⟨by decide, by decide⟩⟩ rfl rfl (Nat.le_of_ble_eq_true rfl) dX5_init_14) hB (fun H locs hB => ?_)
  have hB := bB_n (n1 := 9) rfl hB
  refine b_putF (j := 1) hx hb hown hT hE hB cls_X5 0 (by decide) rfl (by decide) (Nat.le_of_ble_eq_true rfl) rfl wq294 rfl hnm rfl rfl rfl dX5_init_17 (fun H locs hB => ?_)
  subst eQ
  refine b_vret hx hb hr hlk hB ?_ rfl rfl dX5_init_20
  refine allS ?_ rfl
  refine allS ?_ rfl
  refine allS ?_ rfl
  refine allS ?_ rfl
  refine allS ?_ rfl
  refine allS ?_ rfl
  refine allS ?_ rfl
  refine allS ?_ rfl
  refine allS ?_ rfl
  exact allZ
theorem b_X9_126 (l : Launch) (D : va_G) (g : xG) (T : Nat × Nat × Nat) (h0 : Nat) : Met l yX9_init (xws yX9_init cX9_init 2 none) { frames := 1, cells := 1, slots := 60, locals := 20 } (bP [.ref (h0 + 126), .ref (h0 + 1)] D g T (h0 + 126) (.inr (9, fz_X9))) (bQ D (h0 + 126) 2 (fun k => xcel h0 g xI (126 + k))) 1 60 (xA (h0 + 126)) := by
  refine b_met (by decide) (Nat.le_of_ble_eq_true rfl) ?_
  intro p e s m args below meth c hx hb hr hml hown hT hlk hnm hE hO hB ls hl
  have hl : lv_has ls 2 [(0, .ref (h0 + 126)), (1, .ref (h0 + 1))] := hl
  obtain ⟨Q, eQ⟩ : ∃ Q, Q = MQ below (bQ D (h0 + 126) 2 (fun k => xcel h0 g xI (126 + k))) args s 1 60 (xA (h0 + 126)) := ⟨_, rfl⟩
  rw [← eQ]
  generalize hHe : ([] : List Loc) = locs at hB ⊢
  obtain ⟨H, eH⟩ : ∃ H, H = s.heap := ⟨_, rfl⟩
  rw [← eH] at hB ⊢
  refine x_aload_n hx hb hl 0 rfl dX9_init_0 rfl ?_
  refine b_obj hx hb (hml.trans hl.1.symm) hown hT bo306 bo_inst bo_code (by decide) (Nat.le_of_ble_eq_true rfl) dX9_init_1 ?_
  refine x_aload_n hx hb hl 0 rfl dX9_init_4 rfl ?_
  refine x_aload_n hx hb hl 1 rfl dX9_init_5 rfl ?_
  refine b_putF (j := 0) hx hb hown hT hE hB cls_X9 0 (by decide) rfl (by decide) (Nat.le_of_ble_eq_true rfl) rfl wq307 rfl hnm rfl rfl rfl dX9_init_6 (fun H locs hB => ?_)
  refine x_aload_n hx hb hl 0 rfl dX9_init_9 rfl ?_
  refine x_bipush hx hb dX9_init_10 (by decide) ?_
  refine b_newaI (N := 60) hx hb hT hE hB wq217 rfl (by decide) (by decide) (by decide) dX9_init_12 (fun H hB => ?_)
  have hB := bB_n (n1 := 2) rfl hB
  refine b_putF (j := 1) hx hb hown hT hE hB cls_X9 0 (by decide) rfl (by decide) (Nat.le_of_ble_eq_true rfl) rfl wq308 rfl hnm rfl rfl rfl dX9_init_14 (fun H locs hB => ?_)
  refine x_aload_n hx hb hl 0 rfl dX9_init_17 rfl ?_
  refine x_iconst hx hb dX9_init_18 ?_
  refine b_put (j := 2) hx hb hown hT hE hB cls_X9 0 (by decide) rfl (by decide) (Nat.le_of_ble_eq_true rfl) rfl wq309 rfl rfl rfl dX9_init_19 (fun H locs hB => ?_)
  subst eQ
  refine b_vret hx hb hr hlk hB ?_ rfl rfl dX9_init_22
  refine allS ?_ rfl
  refine allS ?_ rfl
  exact allZ
theorem b_X7_130 (l : Launch) (D : va_G) (g : xG) (T : Nat × Nat × Nat) (h0 : Nat) : Met l yX7_init (xws yX7_init cX7_init 1 none) { frames := 1, cells := 3, slots := 300, locals := 20 } (bP [.ref (h0 + 130)] D g T (h0 + 130) (.inr (7, fz_X7))) (bQ D (h0 + 130) 4 (fun k => xcel h0 g xI (130 + k))) 3 300 (xA (h0 + 130)) := by
  refine b_met (by decide) (Nat.le_of_ble_eq_true rfl) ?_
  intro p e s m args below meth c hx hb hr hml hown hT hlk hnm hE hO hB ls hl
  have hl : lv_has ls 1 [(0, .ref (h0 + 130))] := hl
  obtain ⟨Q, eQ⟩ : ∃ Q, Q = MQ below (bQ D (h0 + 130) 4 (fun k => xcel h0 g xI (130 + k))) args s 3 300 (xA (h0 + 130)) := ⟨_, rfl⟩
  rw [← eQ]
  generalize hHe : ([] : List Loc) = locs at hB ⊢
  obtain ⟨H, eH⟩ : ∃ H, H = s.heap := ⟨_, rfl⟩
  rw [← eH] at hB ⊢
  refine x_aload_n hx hb hl 0 rfl dX7_init_0 rfl ?_
  refine b_obj hx hb (hml.trans hl.1.symm) hown hT bo329 bo_inst bo_code (by decide) (Nat.le_of_ble_eq_true rfl) dX7_init_1 ?_
  refine x_aload_n hx hb hl 0 rfl dX7_init_4 rfl ?_
  refine x_bipush hx hb dX7_init_5 (by decide) ?_
  refine b_newaI (N := 100) hx hb hT hE hB wq217 rfl (by decide) (by decide) (by decide) dX7_init_7 (fun H hB => ?_)
  have hB := bB_n (n1 := 2) rfl hB
  refine b_putF (j := 0) hx hb hown hT hE hB cls_X7 0 (by decide) rfl (by decide) (Nat.le_of_ble_eq_true rfl) rfl wq330 rfl hnm rfl rfl rfl dX7_init_9 (fun H locs hB => ?_)
  refine x_aload_n hx hb hl 0 rfl dX7_init_12 rfl ?_
  refine x_bipush hx hb dX7_init_13 (by decide) ?_
  refine b_newaI (N := 100) hx hb hT hE hB wq217 rfl (by decide) (by decide) (by decide) dX7_init_15 (fun H hB => ?_)
  have hB := bB_n (n1 := 3) rfl hB
  refine b_putF (j := 1) hx hb hown hT hE hB cls_X7 0 (by decide) rfl (by decide) (Nat.le_of_ble_eq_true rfl) rfl wq331 rfl hnm rfl rfl rfl dX7_init_17 (fun H locs hB => ?_)
  refine x_aload_n hx hb hl 0 rfl dX7_init_20 rfl ?_
  refine x_bipush hx hb dX7_init_21 (by decide) ?_
  refine b_newaZ (N := 100) hx hb hT hE hB wq242 rfl (by decide) (by decide) (by decide) dX7_init_23 (fun H hB => ?_)
  have hB := bB_n (n1 := 4) rfl hB
  refine b_putF (j := 2) hx hb hown hT hE hB cls_X7 0 (by decide) rfl (by decide) (Nat.le_of_ble_eq_true rfl) rfl wq335 rfl hnm rfl rfl rfl dX7_init_25 (fun H locs hB => ?_)
  refine x_aload_n hx hb hl 0 rfl dX7_init_28 rfl ?_
  refine x_iconst hx hb dX7_init_29 ?_
  refine b_put (j := 3) hx hb hown hT hE hB cls_X7 0 (by decide) rfl (by decide) (Nat.le_of_ble_eq_true rfl) rfl wq337 rfl rfl rfl dX7_init_30 (fun H locs hB => ?_)
  subst eQ
  refine b_vret hx hb hr hlk hB ?_ rfl rfl dX7_init_33
  refine allS ?_ rfl
  refine allS ?_ rfl
  refine allS ?_ rfl
  refine allS ?_ rfl
  exact allZ
theorem b_X0_128 (l : Launch) (D : va_G) (g : xG) (T : Nat × Nat × Nat) (h0 : Nat) : Met l yX0_init (xws yX0_init cX0_init 4 none) { frames := 2, cells := 7, slots := 328, locals := 40 } (bP [.ref (h0 + 128), .ref (h0 + 3), .ref (h0 + 109)] D g T (h0 + 128) (.inr (0, fz_X0))) (bQ D (h0 + 128) 8 (fun k => xcel h0 g xI (128 + k))) 7 328 (xA (h0 + 128)) := by
  refine b_met (by decide) (Nat.le_of_ble_eq_true rfl) ?_
  intro p e s m args below meth c hx hb hr hml hown hT hlk hnm hE hO hB ls hl
  have hl : lv_has ls 4 [(0, .ref (h0 + 128)), (1, .ref (h0 + 3)), (2, .ref (h0 + 109))] := hl
  obtain ⟨Q, eQ⟩ : ∃ Q, Q = MQ below (bQ D (h0 + 128) 8 (fun k => xcel h0 g xI (128 + k))) args s 7 328 (xA (h0 + 128)) := ⟨_, rfl⟩
  rw [← eQ]
  generalize hHe : ([] : List Loc) = locs at hB ⊢
  obtain ⟨H, eH⟩ : ∃ H, H = s.heap := ⟨_, rfl⟩
  rw [← eH] at hB ⊢
  refine x_aload_n hx hb hl 0 rfl dX0_init_0 rfl ?_
  refine b_obj hx hb (hml.trans hl.1.symm) hown hT bo323 bo_inst bo_code (by decide) (Nat.le_of_ble_eq_true rfl) dX0_init_1 ?_
  refine x_aload_n hx hb hl 0 rfl dX0_init_4 rfl ?_
  refine x_aload_n hx hb hl 1 rfl dX0_init_5 rfl ?_
  refine b_putF (j := 0) hx hb hown hT hE hB cls_X0 0 (by decide) rfl (by decide) (Nat.le_of_ble_eq_true rfl) rfl wq351 rfl hnm rfl rfl rfl dX0_init_6 (fun H locs hB => ?_)
  refine x_aload_n hx hb hl 0 rfl dX0_init_9 rfl ?_
  refine x_aload_n hx hb hl 2 rfl dX0_init_10 rfl ?_
  refine b_putF (j := 1) hx hb hown hT hE hB cls_X0 0 (by decide) rfl (by decide) (Nat.le_of_ble_eq_true rfl) rfl wq354 rfl hnm rfl rfl rfl dX0_init_11 (fun H locs hB => ?_)
  refine x_aload_n hx hb hl 0 rfl dX0_init_14 rfl ?_
  refine x_iconst hx hb dX0_init_15 ?_
  refine b_newaI (N := 4) hx hb hT hE hB wq217 rfl (by decide) (by decide) (by decide) dX0_init_16 (fun H hB => ?_)
  have hB := bB_n (n1 := 2) rfl hB
  refine b_putF (j := 2) hx hb hown hT hE hB cls_X0 0 (by decide) rfl (by decide) (Nat.le_of_ble_eq_true rfl) rfl wq355 rfl hnm rfl rfl rfl dX0_init_18 (fun H locs hB => ?_)
  refine x_iconst hx hb dX0_init_21 ?_
  refine lv_istore_n (lv' := [(3, .int (xJ 0)), (0, .ref (h0 + 128)), (1, .ref (h0 + 3)), (2, .ref (h0 + 109))]) hx hb dX0_init_22 rfl hl (by decide) rfl (fun ls hl => ?_)
  refine x_iload_n hx hb hl 0 rfl dX0_init_23 rfl ?_
  refine x_iconst hx hb dX0_init_24 ?_
  refine x_icmp_ge (tgt := 41) hx hb (by decide) (by decide) dX0_init_25 (by decide) (fun h9 => absurd h9 (by decide)) (fun _ => ?_)
  refine x_aload_n hx hb hl 1 rfl dX0_init_28 rfl ?_
  refine b_get (j := 2) (v := .ref (h0 + 128 + 1)) hx hb hown hT hE hB cls_X0 0 (by decide) rfl (by decide) rfl wq355 dX0_init_29 ?_
  refine x_iload_n hx hb hl 0 rfl dX0_init_32 rfl ?_
  refine x_iconst hx hb dX0_init_33 ?_
  refine b_iast hx hb hE hB 1 (by decide) rfl (by decide) (by decide) dX0_init_34 (fun H locs hB => ?_)
  refine x_iinc (lv' := [(3, .int (xJ 1)), (0, .ref (h0 + 128)), (1, .ref (h0 + 3)), (2, .ref (h0 + 109))]) hx hb hl 0 rfl dX0_init_35 (by decide) rfl (fun ls hl => ?_)
  refine lv_goto (tgt := 23) hx hb dX0_init_38 (by decide) ?_
  refine x_iload_n hx hb hl 0 rfl dX0_init_23 rfl ?_
  refine x_iconst hx hb dX0_init_24 ?_
  refine x_icmp_ge (tgt := 41) hx hb (by decide) (by decide) dX0_init_25 (by decide) (fun h9 => absurd h9 (by decide)) (fun _ => ?_)
  refine x_aload_n hx hb hl 1 rfl dX0_init_28 rfl ?_
  refine b_get (j := 2) (v := .ref (h0 + 128 + 1)) hx hb hown hT hE hB cls_X0 0 (by decide) rfl (by decide) rfl wq355 dX0_init_29 ?_
  refine x_iload_n hx hb hl 0 rfl dX0_init_32 rfl ?_
  refine x_iconst hx hb dX0_init_33 ?_
  refine b_iast hx hb hE hB 1 (by decide) rfl (by decide) (by decide) dX0_init_34 (fun H locs hB => ?_)
  refine x_iinc (lv' := [(3, .int (xJ 2)), (0, .ref (h0 + 128)), (1, .ref (h0 + 3)), (2, .ref (h0 + 109))]) hx hb hl 0 rfl dX0_init_35 (by decide) rfl (fun ls hl => ?_)
  refine lv_goto (tgt := 23) hx hb dX0_init_38 (by decide) ?_
  refine x_iload_n hx hb hl 0 rfl dX0_init_23 rfl ?_
  refine x_iconst hx hb dX0_init_24 ?_
  refine x_icmp_ge (tgt := 41) hx hb (by decide) (by decide) dX0_init_25 (by decide) (fun h9 => absurd h9 (by decide)) (fun _ => ?_)
  refine x_aload_n hx hb hl 1 rfl dX0_init_28 rfl ?_
  refine b_get (j := 2) (v := .ref (h0 + 128 + 1)) hx hb hown hT hE hB cls_X0 0 (by decide) rfl (by decide) rfl wq355 dX0_init_29 ?_
  refine x_iload_n hx hb hl 0 rfl dX0_init_32 rfl ?_
  refine x_iconst hx hb dX0_init_33 ?_
  refine b_iast hx hb hE hB 1 (by decide) rfl (by decide) (by decide) dX0_init_34 (fun H locs hB => ?_)
  refine x_iinc (lv' := [(3, .int (xJ 3)), (0, .ref (h0 + 128)), (1, .ref (h0 + 3)), (2, .ref (h0 + 109))]) hx hb hl 0 rfl dX0_init_35 (by decide) rfl (fun ls hl => ?_)
  refine lv_goto (tgt := 23) hx hb dX0_init_38 (by decide) ?_
  refine x_iload_n hx hb hl 0 rfl dX0_init_23 rfl ?_
  refine x_iconst hx hb dX0_init_24 ?_
  refine x_icmp_ge (tgt := 41) hx hb (by decide) (by decide) dX0_init_25 (by decide) (fun h9 => absurd h9 (by decide)) (fun _ => ?_)
  refine x_aload_n hx hb hl 1 rfl dX0_init_28 rfl ?_
  refine b_get (j := 2) (v := .ref (h0 + 128 + 1)) hx hb hown hT hE hB cls_X0 0 (by decide) rfl (by decide) rfl wq355 dX0_init_29 ?_
  refine x_iload_n hx hb hl 0 rfl dX0_init_32 rfl ?_
  refine x_iconst hx hb dX0_init_33 ?_
  refine b_iast hx hb hE hB 1 (by decide) rfl (by decide) (by decide) dX0_init_34 (fun H locs hB => ?_)
  refine x_iinc (lv' := [(3, .int (xJ 4)), (0, .ref (h0 + 128)), (1, .ref (h0 + 3)), (2, .ref (h0 + 109))]) hx hb hl 0 rfl dX0_init_35 (by decide) rfl (fun ls hl => ?_)
  refine lv_goto (tgt := 23) hx hb dX0_init_38 (by decide) ?_
  refine x_iload_n hx hb hl 0 rfl dX0_init_23 rfl ?_
  refine x_iconst hx hb dX0_init_24 ?_
  refine x_icmp_ge (tgt := 41) hx hb (by decide) (by decide) dX0_init_25 (by decide) (fun _ => ?_) (fun h9 => absurd h9 (by decide))
  refine x_aload_n hx hb hl 1 rfl dX0_init_41 rfl ?_
  refine b_new hx hb hown hT hE hB cls_X7 bz_X7 wq324 wq325 wq175 (by decide) (by decide) dX0_init_42 (fun H hB => ?_)
  have hB := bB_n (n1 := 3) rfl hB
  refine lv_dup hx hb dX0_init_45 rfl ?_
  refine b_go (b := h0 + 128) (n := 2) (b_runN (b := h0 + 128) (n := 2) (As := []) hx hb hml hown hT hE hO hB rfl hl.1 cf_X7_init wq327 rfl wn326 (b_X7_130 l D g T h0) ⟨rfl, rfl, ⟨by decide, by decide⟩, ⟨by decide, by decide⟩⟩ rfl rfl (Nat.le_of_ble_eq_true rfl) dX0_init_46) hB (fun H locs hB => ?_)
  have hB := bB_n (n1 := 6) rfl hB
  refine b_putF (j := 3) hx hb hown hT hE hB cls_X0 0 (by decide) rfl (by decide) (Nat.le_of_ble_eq_true rfl) rfl wq357 rfl hnm rfl rfl rfl dX0_init_49 (fun H locs hB => ?_)
  refine x_aload_n hx hb hl 1 rfl dX0_init_52 rfl ?_
  refine x_bipush hx hb dX0_init_53 (by decide) ?_
  refine b_newaI (N := 10) hx hb hT hE hB wq217 rfl (by decide) (by decide) (by decide) dX0_init_55 (fun H hB => ?_)
  have hB := bB_n (n1 := 7) rfl hB
  refine b_putF (j := 4) hx hb hown hT hE hB cls_X0 0 (by decide) rfl (by decide) (Nat.le_of_ble_eq_true rfl) rfl wq361 rfl hnm rfl rfl rfl dX0_init_57 (fun H locs hB => ?_)
  refine x_aload_n hx hb hl 1 rfl dX0_init_60 rfl ?_
  refine x_bipush hx hb dX0_init_61 (by decide) ?_
  refine b_newaI (N := 10) hx hb hT hE hB wq217 rfl (by decide) (by decide) (by decide) dX0_init_63 (fun H hB => ?_)
  have hB := bB_n (n1 := 8) rfl hB
  refine b_putF (j := 5) hx hb hown hT hE hB cls_X0 0 (by decide) rfl (by decide) (Nat.le_of_ble_eq_true rfl) rfl wq362 rfl hnm rfl rfl rfl dX0_init_65 (fun H locs hB => ?_)
  have hB := bB_arr (k := 1) (f' := fun j => xJ (xI 129 j)) hB rfl (by decide +kernel)
  subst eQ
  refine b_vret hx hb hr hlk hB ?_ rfl rfl dX0_init_68
  refine allS ?_ rfl
  refine allS ?_ rfl
  refine allS ?_ rfl
  refine allS ?_ rfl
  refine allS ?_ rfl
  refine allS ?_ rfl
  refine allS ?_ rfl
  refine allS ?_ rfl
  exact allZ
theorem b_X2_136 (l : Launch) (D : va_G) (g : xG) (T : Nat × Nat × Nat) (h0 : Nat) : Met l yX2_init (xws yX2_init cX2_init 2 none) { frames := 1, cells := 9, slots := 46, locals := 20 } (bP [.ref (h0 + 136)] D g T (h0 + 136) (.inr (2, fz_X2))) (bQ D (h0 + 136) 10 (fun k => xcel h0 g xI (136 + k))) 9 46 (xA (h0 + 136)) := by
  refine b_met (by decide) (Nat.le_of_ble_eq_true rfl) ?_
  intro p e s m args below meth c hx hb hr hml hown hT hlk hnm hE hO hB ls hl
  have hl : lv_has ls 2 [(0, .ref (h0 + 136))] := hl
  obtain ⟨Q, eQ⟩ : ∃ Q, Q = MQ below (bQ D (h0 + 136) 10 (fun k => xcel h0 g xI (136 + k))) args s 9 46 (xA (h0 + 136)) := ⟨_, rfl⟩
  rw [← eQ]
  generalize hHe : ([] : List Loc) = locs at hB ⊢
  obtain ⟨H, eH⟩ : ∃ H, H = s.heap := ⟨_, rfl⟩
  rw [← eH] at hB ⊢
  refine x_aload_n hx hb hl 0 rfl dX2_init_0 rfl ?_
  refine b_obj hx hb (hml.trans hl.1.symm) hown hT bo381 bo_inst bo_code (by decide) (Nat.le_of_ble_eq_true rfl) dX2_init_1 ?_
  refine x_aload_n hx hb hl 0 rfl dX2_init_4 rfl ?_
  refine x_iconst hx hb dX2_init_5 ?_
  refine b_newaI (N := 2) hx hb hT hE hB wq217 rfl (by decide) (by decide) (by decide) dX2_init_6 (fun H hB => ?_)
  have hB := bB_n (n1 := 2) rfl hB
  refine b_putF (j := 0) hx hb hown hT hE hB cls_X2 0 (by decide) rfl (by decide) (Nat.le_of_ble_eq_true rfl) rfl wq383 rfl hnm rfl rfl rfl dX2_init_8 (fun H locs hB => ?_)
  refine x_aload_n hx hb hl 0 rfl dX2_init_11 rfl ?_
  refine x_iconst hx hb dX2_init_12 ?_
  refine x_iconst hx hb dX2_init_13 ?_
  refine b_mna (N := 2) (K := 0) hx hb hown hT hE hB wq382 hO wq217 rfl rfl (by decide) (by decide) (by decide) dX2_init_14 (fun H hB => ?_)
  have hB := bB_n (n1 := 5) rfl hB
  have hB := bB_arq (k := 2) (f' := fun j => some (h0 + xrow xI 138 j)) hB rfl (by
      refine allS ?_ rfl
      refine allS ?_ rfl
      exact allZ)
  refine b_putF (j := 1) hx hb hown hT hE hB cls_X2 0 (by decide) rfl (by decide) (Nat.le_of_ble_eq_true rfl) rfl wq386 rfl hnm rfl rfl rfl dX2_init_18 (fun H locs hB => ?_)
  refine x_aload_n hx hb hl 0 rfl dX2_init_21 rfl ?_
  refine x_iconst hx hb dX2_init_22 ?_
  refine b_newaI (N := 2) hx hb hT hE hB wq217 rfl (by decide) (by decide) (by decide) dX2_init_23 (fun H hB => ?_)
  have hB := bB_n (n1 := 6) rfl hB
  refine b_putF (j := 2) hx hb hown hT hE hB cls_X2 0 (by decide) rfl (by decide) (Nat.le_of_ble_eq_true rfl) rfl wq387 rfl hnm rfl rfl rfl dX2_init_25 (fun H locs hB => ?_)
  refine x_aload_n hx hb hl 0 rfl dX2_init_28 rfl ?_
  refine x_bipush hx hb dX2_init_29 (by decide) ?_
  refine b_newaI (N := 10) hx hb hT hE hB wq217 rfl (by decide) (by decide) (by decide) dX2_init_31 (fun H hB => ?_)
  have hB := bB_n (n1 := 7) rfl hB
  refine b_putF (j := 3) hx hb hown hT hE hB cls_X2 0 (by decide) rfl (by decide) (Nat.le_of_ble_eq_true rfl) rfl wq388 rfl hnm rfl rfl rfl dX2_init_33 (fun H locs hB => ?_)
  refine x_aload_n hx hb hl 0 rfl dX2_init_36 rfl ?_
  refine x_bipush hx hb dX2_init_37 (by decide) ?_
  refine b_newaI (N := 10) hx hb hT hE hB wq217 rfl (by decide) (by decide) (by decide) dX2_init_39 (fun H hB => ?_)
  have hB := bB_n (n1 := 8) rfl hB
  refine b_putF (j := 4) hx hb hown hT hE hB cls_X2 0 (by decide) rfl (by decide) (Nat.le_of_ble_eq_true rfl) rfl wq392 rfl hnm rfl rfl rfl dX2_init_41 (fun H locs hB => ?_)
  refine x_aload_n hx hb hl 0 rfl dX2_init_44 rfl ?_
  refine x_bipush hx hb dX2_init_45 (by decide) ?_
  refine b_newaI (N := 10) hx hb hT hE hB wq217 rfl (by decide) (by decide) (by decide) dX2_init_47 (fun H hB => ?_)
  have hB := bB_n (n1 := 9) rfl hB
  refine b_putF (j := 5) hx hb hown hT hE hB cls_X2 0 (by decide) rfl (by decide) (Nat.le_of_ble_eq_true rfl) rfl wq395 rfl hnm rfl rfl rfl dX2_init_49 (fun H locs hB => ?_)
  refine x_aload_n hx hb hl 0 rfl dX2_init_52 rfl ?_
  refine x_bipush hx hb dX2_init_53 (by decide) ?_
  refine b_newaZ (N := 10) hx hb hT hE hB wq242 rfl (by decide) (by decide) (by decide) dX2_init_55 (fun H hB => ?_)
  have hB := bB_n (n1 := 10) rfl hB
  refine b_putF (j := 6) hx hb hown hT hE hB cls_X2 0 (by decide) rfl (by decide) (Nat.le_of_ble_eq_true rfl) rfl wq398 rfl hnm rfl rfl rfl dX2_init_57 (fun H locs hB => ?_)
  refine x_iconst hx hb dX2_init_60 ?_
  refine lv_istore_n (lv' := [(1, .int (xJ 0)), (0, .ref (h0 + 136))]) hx hb dX2_init_61 rfl hl (by decide) rfl (fun ls hl => ?_)
  refine x_iload_n hx hb hl 0 rfl dX2_init_62 rfl ?_
  refine x_iconst hx hb dX2_init_63 ?_
  refine x_icmp_ge (tgt := 80) hx hb (by decide) (by decide) dX2_init_64 (by decide) (fun h9 => absurd h9 (by decide)) (fun _ => ?_)
  refine x_aload_n hx hb hl 1 rfl dX2_init_67 rfl ?_
  refine b_get (j := 0) (v := .ref (h0 + 136 + 1)) hx hb hown hT hE hB cls_X2 0 (by decide) rfl (by decide) rfl wq383 dX2_init_68 ?_
  refine x_iload_n hx hb hl 0 rfl dX2_init_71 rfl ?_
  refine x_iconst hx hb dX2_init_72 ?_
  refine b_iast hx hb hE hB 1 (by decide) rfl (by decide) (by decide) dX2_init_73 (fun H locs hB => ?_)
  refine x_iinc (lv' := [(1, .int (xJ 1)), (0, .ref (h0 + 136))]) hx hb hl 0 rfl dX2_init_74 (by decide) rfl (fun ls hl => ?_)
  refine lv_goto (tgt := 62) hx hb dX2_init_77 (by decide) ?_
  refine x_iload_n hx hb hl 0 rfl dX2_init_62 rfl ?_
  refine x_iconst hx hb dX2_init_63 ?_
  refine x_icmp_ge (tgt := 80) hx hb (by decide) (by decide) dX2_init_64 (by decide) (fun h9 => absurd h9 (by decide)) (fun _ => ?_)
  refine x_aload_n hx hb hl 1 rfl dX2_init_67 rfl ?_
  refine b_get (j := 0) (v := .ref (h0 + 136 + 1)) hx hb hown hT hE hB cls_X2 0 (by decide) rfl (by decide) rfl wq383 dX2_init_68 ?_
  refine x_iload_n hx hb hl 0 rfl dX2_init_71 rfl ?_
  refine x_iconst hx hb dX2_init_72 ?_
  refine b_iast hx hb hE hB 1 (by decide) rfl (by decide) (by decide) dX2_init_73 (fun H locs hB => ?_)
  refine x_iinc (lv' := [(1, .int (xJ 2)), (0, .ref (h0 + 136))]) hx hb hl 0 rfl dX2_init_74 (by decide) rfl (fun ls hl => ?_)
  refine lv_goto (tgt := 62) hx hb dX2_init_77 (by decide) ?_
  refine x_iload_n hx hb hl 0 rfl dX2_init_62 rfl ?_
  refine x_iconst hx hb dX2_init_63 ?_
  refine x_icmp_ge (tgt := 80) hx hb (by decide) (by decide) dX2_init_64 (by decide) (fun _ => ?_) (fun h9 => absurd h9 (by decide))
  refine x_iconst hx hb dX2_init_80 ?_
  refine lv_istore_n (lv' := [(1, .int (xJ 0)), (0, .ref (h0 + 136))]) hx hb dX2_init_81 rfl hl (by decide) rfl (fun ls hl => ?_)
  refine x_iload_n hx hb hl 0 rfl dX2_init_82 rfl ?_
  refine x_bipush hx hb dX2_init_83 (by decide) ?_
  refine x_icmp_ge (tgt := 101) hx hb (by decide) (by decide) dX2_init_85 (by decide) (fun h9 => absurd h9 (by decide)) (fun _ => ?_)
  refine x_aload_n hx hb hl 1 rfl dX2_init_88 rfl ?_
  refine b_get (j := 3) (v := .ref (h0 + 136 + 6)) hx hb hown hT hE hB cls_X2 0 (by decide) rfl (by decide) rfl wq388 dX2_init_89 ?_
  refine x_iload_n hx hb hl 0 rfl dX2_init_92 rfl ?_
  refine x_iconst hx hb dX2_init_93 ?_
  refine b_iast hx hb hE hB 6 (by decide) rfl (by decide) (by decide) dX2_init_94 (fun H locs hB => ?_)
  refine x_iinc (lv' := [(1, .int (xJ 1)), (0, .ref (h0 + 136))]) hx hb hl 0 rfl dX2_init_95 (by decide) rfl (fun ls hl => ?_)
  refine lv_goto (tgt := 82) hx hb dX2_init_98 (by decide) ?_
  refine x_iload_n hx hb hl 0 rfl dX2_init_82 rfl ?_
  refine x_bipush hx hb dX2_init_83 (by decide) ?_
  refine x_icmp_ge (tgt := 101) hx hb (by decide) (by decide) dX2_init_85 (by decide) (fun h9 => absurd h9 (by decide)) (fun _ => ?_)
  refine x_aload_n hx hb hl 1 rfl dX2_init_88 rfl ?_
  refine b_get (j := 3) (v := .ref (h0 + 136 + 6)) hx hb hown hT hE hB cls_X2 0 (by decide) rfl (by decide) rfl wq388 dX2_init_89 ?_
  refine x_iload_n hx hb hl 0 rfl dX2_init_92 rfl ?_
  refine x_iconst hx hb dX2_init_93 ?_
  refine b_iast hx hb hE hB 6 (by decide) rfl (by decide) (by decide) dX2_init_94 (fun H locs hB => ?_)
  refine x_iinc (lv' := [(1, .int (xJ 2)), (0, .ref (h0 + 136))]) hx hb hl 0 rfl dX2_init_95 (by decide) rfl (fun ls hl => ?_)
  refine lv_goto (tgt := 82) hx hb dX2_init_98 (by decide) ?_
  refine x_iload_n hx hb hl 0 rfl dX2_init_82 rfl ?_
  refine x_bipush hx hb dX2_init_83 (by decide) ?_
  refine x_icmp_ge (tgt := 101) hx hb (by decide) (by decide) dX2_init_85 (by decide) (fun h9 => absurd h9 (by decide)) (fun _ => ?_)
  refine x_aload_n hx hb hl 1 rfl dX2_init_88 rfl ?_
  refine b_get (j := 3) (v := .ref (h0 + 136 + 6)) hx hb hown hT hE hB cls_X2 0 (by decide) rfl (by decide) rfl wq388 dX2_init_89 ?_
  refine x_iload_n hx hb hl 0 rfl dX2_init_92 rfl ?_
  refine x_iconst hx hb dX2_init_93 ?_
  refine b_iast hx hb hE hB 6 (by decide) rfl (by decide) (by decide) dX2_init_94 (fun H locs hB => ?_)
  refine x_iinc (lv' := [(1, .int (xJ 3)), (0, .ref (h0 + 136))]) hx hb hl 0 rfl dX2_init_95 (by decide) rfl (fun ls hl => ?_)
  refine lv_goto (tgt := 82) hx hb dX2_init_98 (by decide) ?_
  refine x_iload_n hx hb hl 0 rfl dX2_init_82 rfl ?_
  refine x_bipush hx hb dX2_init_83 (by decide) ?_
  refine x_icmp_ge (tgt := 101) hx hb (by decide) (by decide) dX2_init_85 (by decide) (fun h9 => absurd h9 (by decide)) (fun _ => ?_)
  refine x_aload_n hx hb hl 1 rfl dX2_init_88 rfl ?_
  refine b_get (j := 3) (v := .ref (h0 + 136 + 6)) hx hb hown hT hE hB cls_X2 0 (by decide) rfl (by decide) rfl wq388 dX2_init_89 ?_
  refine x_iload_n hx hb hl 0 rfl dX2_init_92 rfl ?_
  refine x_iconst hx hb dX2_init_93 ?_
  refine b_iast hx hb hE hB 6 (by decide) rfl (by decide) (by decide) dX2_init_94 (fun H locs hB => ?_)
  refine x_iinc (lv' := [(1, .int (xJ 4)), (0, .ref (h0 + 136))]) hx hb hl 0 rfl dX2_init_95 (by decide) rfl (fun ls hl => ?_)
  refine lv_goto (tgt := 82) hx hb dX2_init_98 (by decide) ?_
  refine x_iload_n hx hb hl 0 rfl dX2_init_82 rfl ?_
  refine x_bipush hx hb dX2_init_83 (by decide) ?_
  refine x_icmp_ge (tgt := 101) hx hb (by decide) (by decide) dX2_init_85 (by decide) (fun h9 => absurd h9 (by decide)) (fun _ => ?_)
  refine x_aload_n hx hb hl 1 rfl dX2_init_88 rfl ?_
  refine b_get (j := 3) (v := .ref (h0 + 136 + 6)) hx hb hown hT hE hB cls_X2 0 (by decide) rfl (by decide) rfl wq388 dX2_init_89 ?_
  refine x_iload_n hx hb hl 0 rfl dX2_init_92 rfl ?_
  refine x_iconst hx hb dX2_init_93 ?_
  refine b_iast hx hb hE hB 6 (by decide) rfl (by decide) (by decide) dX2_init_94 (fun H locs hB => ?_)
  refine x_iinc (lv' := [(1, .int (xJ 5)), (0, .ref (h0 + 136))]) hx hb hl 0 rfl dX2_init_95 (by decide) rfl (fun ls hl => ?_)
  refine lv_goto (tgt := 82) hx hb dX2_init_98 (by decide) ?_
  refine x_iload_n hx hb hl 0 rfl dX2_init_82 rfl ?_
  refine x_bipush hx hb dX2_init_83 (by decide) ?_
  refine x_icmp_ge (tgt := 101) hx hb (by decide) (by decide) dX2_init_85 (by decide) (fun h9 => absurd h9 (by decide)) (fun _ => ?_)
  refine x_aload_n hx hb hl 1 rfl dX2_init_88 rfl ?_
  refine b_get (j := 3) (v := .ref (h0 + 136 + 6)) hx hb hown hT hE hB cls_X2 0 (by decide) rfl (by decide) rfl wq388 dX2_init_89 ?_
  refine x_iload_n hx hb hl 0 rfl dX2_init_92 rfl ?_
  refine x_iconst hx hb dX2_init_93 ?_
  refine b_iast hx hb hE hB 6 (by decide) rfl (by decide) (by decide) dX2_init_94 (fun H locs hB => ?_)
  refine x_iinc (lv' := [(1, .int (xJ 6)), (0, .ref (h0 + 136))]) hx hb hl 0 rfl dX2_init_95 (by decide) rfl (fun ls hl => ?_)
  refine lv_goto (tgt := 82) hx hb dX2_init_98 (by decide) ?_
  refine x_iload_n hx hb hl 0 rfl dX2_init_82 rfl ?_
  refine x_bipush hx hb dX2_init_83 (by decide) ?_
  refine x_icmp_ge (tgt := 101) hx hb (by decide) (by decide) dX2_init_85 (by decide) (fun h9 => absurd h9 (by decide)) (fun _ => ?_)
  refine x_aload_n hx hb hl 1 rfl dX2_init_88 rfl ?_
  refine b_get (j := 3) (v := .ref (h0 + 136 + 6)) hx hb hown hT hE hB cls_X2 0 (by decide) rfl (by decide) rfl wq388 dX2_init_89 ?_
  refine x_iload_n hx hb hl 0 rfl dX2_init_92 rfl ?_
  refine x_iconst hx hb dX2_init_93 ?_
  refine b_iast hx hb hE hB 6 (by decide) rfl (by decide) (by decide) dX2_init_94 (fun H locs hB => ?_)
  refine x_iinc (lv' := [(1, .int (xJ 7)), (0, .ref (h0 + 136))]) hx hb hl 0 rfl dX2_init_95 (by decide) rfl (fun ls hl => ?_)
  refine lv_goto (tgt := 82) hx hb dX2_init_98 (by decide) ?_
  refine x_iload_n hx hb hl 0 rfl dX2_init_82 rfl ?_
  refine x_bipush hx hb dX2_init_83 (by decide) ?_
  refine x_icmp_ge (tgt := 101) hx hb (by decide) (by decide) dX2_init_85 (by decide) (fun h9 => absurd h9 (by decide)) (fun _ => ?_)
  refine x_aload_n hx hb hl 1 rfl dX2_init_88 rfl ?_
  refine b_get (j := 3) (v := .ref (h0 + 136 + 6)) hx hb hown hT hE hB cls_X2 0 (by decide) rfl (by decide) rfl wq388 dX2_init_89 ?_
  refine x_iload_n hx hb hl 0 rfl dX2_init_92 rfl ?_
  refine x_iconst hx hb dX2_init_93 ?_
  refine b_iast hx hb hE hB 6 (by decide) rfl (by decide) (by decide) dX2_init_94 (fun H locs hB => ?_)
  refine x_iinc (lv' := [(1, .int (xJ 8)), (0, .ref (h0 + 136))]) hx hb hl 0 rfl dX2_init_95 (by decide) rfl (fun ls hl => ?_)
  refine lv_goto (tgt := 82) hx hb dX2_init_98 (by decide) ?_
  refine x_iload_n hx hb hl 0 rfl dX2_init_82 rfl ?_
  refine x_bipush hx hb dX2_init_83 (by decide) ?_
  refine x_icmp_ge (tgt := 101) hx hb (by decide) (by decide) dX2_init_85 (by decide) (fun h9 => absurd h9 (by decide)) (fun _ => ?_)
  refine x_aload_n hx hb hl 1 rfl dX2_init_88 rfl ?_
  refine b_get (j := 3) (v := .ref (h0 + 136 + 6)) hx hb hown hT hE hB cls_X2 0 (by decide) rfl (by decide) rfl wq388 dX2_init_89 ?_
  refine x_iload_n hx hb hl 0 rfl dX2_init_92 rfl ?_
  refine x_iconst hx hb dX2_init_93 ?_
  refine b_iast hx hb hE hB 6 (by decide) rfl (by decide) (by decide) dX2_init_94 (fun H locs hB => ?_)
  refine x_iinc (lv' := [(1, .int (xJ 9)), (0, .ref (h0 + 136))]) hx hb hl 0 rfl dX2_init_95 (by decide) rfl (fun ls hl => ?_)
  refine lv_goto (tgt := 82) hx hb dX2_init_98 (by decide) ?_
  refine x_iload_n hx hb hl 0 rfl dX2_init_82 rfl ?_
  refine x_bipush hx hb dX2_init_83 (by decide) ?_
  refine x_icmp_ge (tgt := 101) hx hb (by decide) (by decide) dX2_init_85 (by decide) (fun h9 => absurd h9 (by decide)) (fun _ => ?_)
  refine x_aload_n hx hb hl 1 rfl dX2_init_88 rfl ?_
  refine b_get (j := 3) (v := .ref (h0 + 136 + 6)) hx hb hown hT hE hB cls_X2 0 (by decide) rfl (by decide) rfl wq388 dX2_init_89 ?_
  refine x_iload_n hx hb hl 0 rfl dX2_init_92 rfl ?_
  refine x_iconst hx hb dX2_init_93 ?_
  refine b_iast hx hb hE hB 6 (by decide) rfl (by decide) (by decide) dX2_init_94 (fun H locs hB => ?_)
  refine x_iinc (lv' := [(1, .int (xJ 10)), (0, .ref (h0 + 136))]) hx hb hl 0 rfl dX2_init_95 (by decide) rfl (fun ls hl => ?_)
  refine lv_goto (tgt := 82) hx hb dX2_init_98 (by decide) ?_
  refine x_iload_n hx hb hl 0 rfl dX2_init_82 rfl ?_
  refine x_bipush hx hb dX2_init_83 (by decide) ?_
  refine x_icmp_ge (tgt := 101) hx hb (by decide) (by decide) dX2_init_85 (by decide) (fun _ => ?_) (fun h9 => absurd h9 (by decide))
  refine x_aload_n hx hb hl 1 rfl dX2_init_101 rfl ?_
  refine x_iconst hx hb dX2_init_102 ?_
  refine b_put (j := 7) hx hb hown hT hE hB cls_X2 0 (by decide) rfl (by decide) (Nat.le_of_ble_eq_true rfl) rfl wq401 rfl rfl rfl dX2_init_103 (fun H locs hB => ?_)
  refine x_aload_n hx hb hl 1 rfl dX2_init_106 rfl ?_
  refine x_iconst hx hb dX2_init_107 ?_
  refine b_put (j := 8) hx hb hown hT hE hB cls_X2 0 (by decide) rfl (by decide) (Nat.le_of_ble_eq_true rfl) rfl wq404 rfl rfl rfl dX2_init_108 (fun H locs hB => ?_)
  refine x_aload_n hx hb hl 1 rfl dX2_init_111 rfl ?_
  refine x_iconst hx hb dX2_init_112 ?_
  refine b_put (j := 9) hx hb hown hT hE hB cls_X2 0 (by decide) rfl (by decide) (Nat.le_of_ble_eq_true rfl) rfl wq406 rfl rfl rfl dX2_init_113 (fun H locs hB => ?_)
  refine x_aload_n hx hb hl 1 rfl dX2_init_116 rfl ?_
  refine x_iconst hx hb dX2_init_117 ?_
  refine b_put (j := 10) hx hb hown hT hE hB cls_X2 0 (by decide) rfl (by decide) (Nat.le_of_ble_eq_true rfl) rfl wq409 rfl rfl rfl dX2_init_118 (fun H locs hB => ?_)
  refine x_aload_n hx hb hl 1 rfl dX2_init_121 rfl ?_
  refine x_iconst hx hb dX2_init_122 ?_
  refine b_put (j := 11) hx hb hown hT hE hB cls_X2 0 (by decide) rfl (by decide) (Nat.le_of_ble_eq_true rfl) rfl wq412 rfl rfl rfl dX2_init_123 (fun H locs hB => ?_)
  have hB := bB_arr (k := 1) (f' := fun j => xJ (xI 137 j)) hB rfl (by decide +kernel)
  have hB := bB_arr (k := 6) (f' := fun j => xJ (xI 142 j)) hB rfl (by decide +kernel)
  subst eQ
  refine b_vret hx hb hr hlk hB ?_ rfl rfl dX2_init_126
  refine allS ?_ rfl
  refine allS ?_ rfl
  refine allS ?_ rfl
  refine allS ?_ rfl
  refine allS ?_ rfl
  refine allS ?_ rfl
  refine allS ?_ rfl
  refine allS ?_ rfl
  refine allS ?_ rfl
  refine allS ?_ rfl
  exact allZ
theorem b_X2_146 (l : Launch) (D : va_G) (g : xG) (T : Nat × Nat × Nat) (h0 : Nat) : Met l yX2_init (xws yX2_init cX2_init 2 none) { frames := 1, cells := 9, slots := 46, locals := 20 } (bP [.ref (h0 + 146)] D g T (h0 + 146) (.inr (2, fz_X2))) (bQ D (h0 + 146) 10 (fun k => xcel h0 g xI (146 + k))) 9 46 (xA (h0 + 146)) := by
  refine b_met (by decide) (Nat.le_of_ble_eq_true rfl) ?_
  intro p e s m args below meth c hx hb hr hml hown hT hlk hnm hE hO hB ls hl
  have hl : lv_has ls 2 [(0, .ref (h0 + 146))] := hl
  obtain ⟨Q, eQ⟩ : ∃ Q, Q = MQ below (bQ D (h0 + 146) 10 (fun k => xcel h0 g xI (146 + k))) args s 9 46 (xA (h0 + 146)) := ⟨_, rfl⟩
  rw [← eQ]
  generalize hHe : ([] : List Loc) = locs at hB ⊢
  obtain ⟨H, eH⟩ : ∃ H, H = s.heap := ⟨_, rfl⟩
  rw [← eH] at hB ⊢
  refine x_aload_n hx hb hl 0 rfl dX2_init_0 rfl ?_
  refine b_obj hx hb (hml.trans hl.1.symm) hown hT bo381 bo_inst bo_code (by decide) (Nat.le_of_ble_eq_true rfl) dX2_init_1 ?_
  refine x_aload_n hx hb hl 0 rfl dX2_init_4 rfl ?_
  refine x_iconst hx hb dX2_init_5 ?_
  refine b_newaI (N := 2) hx hb hT hE hB wq217 rfl (by decide) (by decide) (by decide) dX2_init_6 (fun H hB => ?_)
  have hB := bB_n (n1 := 2) rfl hB
  refine b_putF (j := 0) hx hb hown hT hE hB cls_X2 0 (by decide) rfl (by decide) (Nat.le_of_ble_eq_true rfl) rfl wq383 rfl hnm rfl rfl rfl dX2_init_8 (fun H locs hB => ?_)
  refine x_aload_n hx hb hl 0 rfl dX2_init_11 rfl ?_
  refine x_iconst hx hb dX2_init_12 ?_
  refine x_iconst hx hb dX2_init_13 ?_
  refine b_mna (N := 2) (K := 0) hx hb hown hT hE hB wq382 hO wq217 rfl rfl (by decide) (by decide) (by decide) dX2_init_14 (fun H hB => ?_)
  have hB := bB_n (n1 := 5) rfl hB
  have hB := bB_arq (k := 2) (f' := fun j => some (h0 + xrow xI 148 j)) hB rfl (by
      refine allS ?_ rfl
      refine allS ?_ rfl
      exact allZ)
  refine b_putF (j := 1) hx hb hown hT hE hB cls_X2 0 (by decide) rfl (by decide) (Nat.le_of_ble_eq_true rfl) rfl wq386 rfl hnm rfl rfl rfl dX2_init_18 (fun H locs hB => ?_)
  refine x_aload_n hx hb hl 0 rfl dX2_init_21 rfl ?_
  refine x_iconst hx hb dX2_init_22 ?_
  refine b_newaI (N := 2) hx hb hT hE hB wq217 rfl (by decide) (by decide) (by decide) dX2_init_23 (fun H hB => ?_)
  have hB := bB_n (n1 := 6) rfl hB
  refine b_putF (j := 2) hx hb hown hT hE hB cls_X2 0 (by decide) rfl (by decide) (Nat.le_of_ble_eq_true rfl) rfl wq387 rfl hnm rfl rfl rfl dX2_init_25 (fun H locs hB => ?_)
  refine x_aload_n hx hb hl 0 rfl dX2_init_28 rfl ?_
  refine x_bipush hx hb dX2_init_29 (by decide) ?_
  refine b_newaI (N := 10) hx hb hT hE hB wq217 rfl (by decide) (by decide) (by decide) dX2_init_31 (fun H hB => ?_)
  have hB := bB_n (n1 := 7) rfl hB
  refine b_putF (j := 3) hx hb hown hT hE hB cls_X2 0 (by decide) rfl (by decide) (Nat.le_of_ble_eq_true rfl) rfl wq388 rfl hnm rfl rfl rfl dX2_init_33 (fun H locs hB => ?_)
  refine x_aload_n hx hb hl 0 rfl dX2_init_36 rfl ?_
  refine x_bipush hx hb dX2_init_37 (by decide) ?_
  refine b_newaI (N := 10) hx hb hT hE hB wq217 rfl (by decide) (by decide) (by decide) dX2_init_39 (fun H hB => ?_)
  have hB := bB_n (n1 := 8) rfl hB
  refine b_putF (j := 4) hx hb hown hT hE hB cls_X2 0 (by decide) rfl (by decide) (Nat.le_of_ble_eq_true rfl) rfl wq392 rfl hnm rfl rfl rfl dX2_init_41 (fun H locs hB => ?_)
  refine x_aload_n hx hb hl 0 rfl dX2_init_44 rfl ?_
  refine x_bipush hx hb dX2_init_45 (by decide) ?_
  refine b_newaI (N := 10) hx hb hT hE hB wq217 rfl (by decide) (by decide) (by decide) dX2_init_47 (fun H hB => ?_)
  have hB := bB_n (n1 := 9) rfl hB
  refine b_putF (j := 5) hx hb hown hT hE hB cls_X2 0 (by decide) rfl (by decide) (Nat.le_of_ble_eq_true rfl) rfl wq395 rfl hnm rfl rfl rfl dX2_init_49 (fun H locs hB => ?_)
  refine x_aload_n hx hb hl 0 rfl dX2_init_52 rfl ?_
  refine x_bipush hx hb dX2_init_53 (by decide) ?_
  refine b_newaZ (N := 10) hx hb hT hE hB wq242 rfl (by decide) (by decide) (by decide) dX2_init_55 (fun H hB => ?_)
  have hB := bB_n (n1 := 10) rfl hB
  refine b_putF (j := 6) hx hb hown hT hE hB cls_X2 0 (by decide) rfl (by decide) (Nat.le_of_ble_eq_true rfl) rfl wq398 rfl hnm rfl rfl rfl dX2_init_57 (fun H locs hB => ?_)
  refine x_iconst hx hb dX2_init_60 ?_
  refine lv_istore_n (lv' := [(1, .int (xJ 0)), (0, .ref (h0 + 146))]) hx hb dX2_init_61 rfl hl (by decide) rfl (fun ls hl => ?_)
  refine x_iload_n hx hb hl 0 rfl dX2_init_62 rfl ?_
  refine x_iconst hx hb dX2_init_63 ?_
  refine x_icmp_ge (tgt := 80) hx hb (by decide) (by decide) dX2_init_64 (by decide) (fun h9 => absurd h9 (by decide)) (fun _ => ?_)
  refine x_aload_n hx hb hl 1 rfl dX2_init_67 rfl ?_
  refine b_get (j := 0) (v := .ref (h0 + 146 + 1)) hx hb hown hT hE hB cls_X2 0 (by decide) rfl (by decide) rfl wq383 dX2_init_68 ?_
  refine x_iload_n hx hb hl 0 rfl dX2_init_71 rfl ?_
  refine x_iconst hx hb dX2_init_72 ?_
  refine b_iast hx hb hE hB 1 (by decide) rfl (by decide) (by decide) dX2_init_73 (fun H locs hB => ?_)
  refine x_iinc (lv' := [(1, .int (xJ 1)), (0, .ref (h0 + 146))]) hx hb hl 0 rfl dX2_init_74 (by decide) rfl (fun ls hl => ?_)
  refine lv_goto (tgt := 62) hx hb dX2_init_77 (by decide) ?_
  refine x_iload_n hx hb hl 0 rfl dX2_init_62 rfl ?_
  refine x_iconst hx hb dX2_init_63 ?_
  refine x_icmp_ge (tgt := 80) hx hb (by decide) (by decide) dX2_init_64 (by decide) (fun h9 => absurd h9 (by decide)) (fun _ => ?_)
  refine x_aload_n hx hb hl 1 rfl dX2_init_67 rfl ?_
  refine b_get (j := 0) (v := .ref (h0 + 146 + 1)) hx hb hown hT hE hB cls_X2 0 (by decide) rfl (by decide) rfl wq383 dX2_init_68 ?_
  refine x_iload_n hx hb hl 0 rfl dX2_init_71 rfl ?_
  refine x_iconst hx hb dX2_init_72 ?_
  refine b_iast hx hb hE hB 1 (by decide) rfl (by decide) (by decide) dX2_init_73 (fun H locs hB => ?_)
  refine x_iinc (lv' := [(1, .int (xJ 2)), (0, .ref (h0 + 146))]) hx hb hl 0 rfl dX2_init_74 (by decide) rfl (fun ls hl => ?_)
  refine lv_goto (tgt := 62) hx hb dX2_init_77 (by decide) ?_
  refine x_iload_n hx hb hl 0 rfl dX2_init_62 rfl ?_
  refine x_iconst hx hb dX2_init_63 ?_
  refine x_icmp_ge (tgt := 80) hx hb (by decide) (by decide) dX2_init_64 (by decide) (fun _ => ?_) (fun h9 => absurd h9 (by decide))
  refine x_iconst hx hb dX2_init_80 ?_
  refine lv_istore_n (lv' := [(1, .int (xJ 0)), (0, .ref (h0 + 146))]) hx hb dX2_init_81 rfl hl (by decide) rfl (fun ls hl => ?_)
  refine x_iload_n hx hb hl 0 rfl dX2_init_82 rfl ?_
  refine x_bipush hx hb dX2_init_83 (by decide) ?_
  refine x_icmp_ge (tgt := 101) hx hb (by decide) (by decide) dX2_init_85 (by decide) (fun h9 => absurd h9 (by decide)) (fun _ => ?_)
  refine x_aload_n hx hb hl 1 rfl dX2_init_88 rfl ?_
  refine b_get (j := 3) (v := .ref (h0 + 146 + 6)) hx hb hown hT hE hB cls_X2 0 (by decide) rfl (by decide) rfl wq388 dX2_init_89 ?_
  refine x_iload_n hx hb hl 0 rfl dX2_init_92 rfl ?_
  refine x_iconst hx hb dX2_init_93 ?_
  refine b_iast hx hb hE hB 6 (by decide) rfl (by decide) (by decide) dX2_init_94 (fun H locs hB => ?_)
  refine x_iinc (lv' := [(1, .int (xJ 1)), (0, .ref (h0 + 146))]) hx hb hl 0 rfl dX2_init_95 (by decide) rfl (fun ls hl => ?_)
  refine lv_goto (tgt := 82) hx hb dX2_init_98 (by decide) ?_
  refine x_iload_n hx hb hl 0 rfl dX2_init_82 rfl ?_
  refine x_bipush hx hb dX2_init_83 (by decide) ?_
  refine x_icmp_ge (tgt := 101) hx hb (by decide) (by decide) dX2_init_85 (by decide) (fun h9 => absurd h9 (by decide)) (fun _ => ?_)
  refine x_aload_n hx hb hl 1 rfl dX2_init_88 rfl ?_
  refine b_get (j := 3) (v := .ref (h0 + 146 + 6)) hx hb hown hT hE hB cls_X2 0 (by decide) rfl (by decide) rfl wq388 dX2_init_89 ?_
  refine x_iload_n hx hb hl 0 rfl dX2_init_92 rfl ?_
  refine x_iconst hx hb dX2_init_93 ?_
  refine b_iast hx hb hE hB 6 (by decide) rfl (by decide) (by decide) dX2_init_94 (fun H locs hB => ?_)
  refine x_iinc (lv' := [(1, .int (xJ 2)), (0, .ref (h0 + 146))]) hx hb hl 0 rfl dX2_init_95 (by decide) rfl (fun ls hl => ?_)
  refine lv_goto (tgt := 82) hx hb dX2_init_98 (by decide) ?_
  refine x_iload_n hx hb hl 0 rfl dX2_init_82 rfl ?_
  refine x_bipush hx hb dX2_init_83 (by decide) ?_
  refine x_icmp_ge (tgt := 101) hx hb (by decide) (by decide) dX2_init_85 (by decide) (fun h9 => absurd h9 (by decide)) (fun _ => ?_)
  refine x_aload_n hx hb hl 1 rfl dX2_init_88 rfl ?_
  refine b_get (j := 3) (v := .ref (h0 + 146 + 6)) hx hb hown hT hE hB cls_X2 0 (by decide) rfl (by decide) rfl wq388 dX2_init_89 ?_
  refine x_iload_n hx hb hl 0 rfl dX2_init_92 rfl ?_
  refine x_iconst hx hb dX2_init_93 ?_
  refine b_iast hx hb hE hB 6 (by decide) rfl (by decide) (by decide) dX2_init_94 (fun H locs hB => ?_)
  refine x_iinc (lv' := [(1, .int (xJ 3)), (0, .ref (h0 + 146))]) hx hb hl 0 rfl dX2_init_95 (by decide) rfl (fun ls hl => ?_)
  refine lv_goto (tgt := 82) hx hb dX2_init_98 (by decide) ?_
  refine x_iload_n hx hb hl 0 rfl dX2_init_82 rfl ?_
  refine x_bipush hx hb dX2_init_83 (by decide) ?_
  refine x_icmp_ge (tgt := 101) hx hb (by decide) (by decide) dX2_init_85 (by decide) (fun h9 => absurd h9 (by decide)) (fun _ => ?_)
  refine x_aload_n hx hb hl 1 rfl dX2_init_88 rfl ?_
  refine b_get (j := 3) (v := .ref (h0 + 146 + 6)) hx hb hown hT hE hB cls_X2 0 (by decide) rfl (by decide) rfl wq388 dX2_init_89 ?_
  refine x_iload_n hx hb hl 0 rfl dX2_init_92 rfl ?_
  refine x_iconst hx hb dX2_init_93 ?_
  refine b_iast hx hb hE hB 6 (by decide) rfl (by decide) (by decide) dX2_init_94 (fun H locs hB => ?_)
  refine x_iinc (lv' := [(1, .int (xJ 4)), (0, .ref (h0 + 146))]) hx hb hl 0 rfl dX2_init_95 (by decide) rfl (fun ls hl => ?_)
  refine lv_goto (tgt := 82) hx hb dX2_init_98 (by decide) ?_
  refine x_iload_n hx hb hl 0 rfl dX2_init_82 rfl ?_
  refine x_bipush hx hb dX2_init_83 (by decide) ?_
  refine x_icmp_ge (tgt := 101) hx hb (by decide) (by decide) dX2_init_85 (by decide) (fun h9 => absurd h9 (by decide)) (fun _ => ?_)
  refine x_aload_n hx hb hl 1 rfl dX2_init_88 rfl ?_
  refine b_get (j := 3) (v := .ref (h0 + 146 + 6)) hx hb hown hT hE hB cls_X2 0 (by decide) rfl (by decide) rfl wq388 dX2_init_89 ?_
  refine x_iload_n hx hb hl 0 rfl dX2_init_92 rfl ?_
  refine x_iconst hx hb dX2_init_93 ?_
  refine b_iast hx hb hE hB 6 (by decide) rfl (by decide) (by decide) dX2_init_94 (fun H locs hB => ?_)
  refine x_iinc (lv' := [(1, .int (xJ 5)), (0, .ref (h0 + 146))]) hx hb hl 0 rfl dX2_init_95 (by decide) rfl (fun ls hl => ?_)
  refine lv_goto (tgt := 82) hx hb dX2_init_98 (by decide) ?_
  refine x_iload_n hx hb hl 0 rfl dX2_init_82 rfl ?_
  refine x_bipush hx hb dX2_init_83 (by decide) ?_
  refine x_icmp_ge (tgt := 101) hx hb (by decide) (by decide) dX2_init_85 (by decide) (fun h9 => absurd h9 (by decide)) (fun _ => ?_)
  refine x_aload_n hx hb hl 1 rfl dX2_init_88 rfl ?_
  refine b_get (j := 3) (v := .ref (h0 + 146 + 6)) hx hb hown hT hE hB cls_X2 0 (by decide) rfl (by decide) rfl wq388 dX2_init_89 ?_
  refine x_iload_n hx hb hl 0 rfl dX2_init_92 rfl ?_
  refine x_iconst hx hb dX2_init_93 ?_
  refine b_iast hx hb hE hB 6 (by decide) rfl (by decide) (by decide) dX2_init_94 (fun H locs hB => ?_)
  refine x_iinc (lv' := [(1, .int (xJ 6)), (0, .ref (h0 + 146))]) hx hb hl 0 rfl dX2_init_95 (by decide) rfl (fun ls hl => ?_)
  refine lv_goto (tgt := 82) hx hb dX2_init_98 (by decide) ?_
  refine x_iload_n hx hb hl 0 rfl dX2_init_82 rfl ?_
  refine x_bipush hx hb dX2_init_83 (by decide) ?_
  refine x_icmp_ge (tgt := 101) hx hb (by decide) (by decide) dX2_init_85 (by decide) (fun h9 => absurd h9 (by decide)) (fun _ => ?_)
  refine x_aload_n hx hb hl 1 rfl dX2_init_88 rfl ?_
  refine b_get (j := 3) (v := .ref (h0 + 146 + 6)) hx hb hown hT hE hB cls_X2 0 (by decide) rfl (by decide) rfl wq388 dX2_init_89 ?_
  refine x_iload_n hx hb hl 0 rfl dX2_init_92 rfl ?_
  refine x_iconst hx hb dX2_init_93 ?_
  refine b_iast hx hb hE hB 6 (by decide) rfl (by decide) (by decide) dX2_init_94 (fun H locs hB => ?_)
  refine x_iinc (lv' := [(1, .int (xJ 7)), (0, .ref (h0 + 146))]) hx hb hl 0 rfl dX2_init_95 (by decide) rfl (fun ls hl => ?_)
  refine lv_goto (tgt := 82) hx hb dX2_init_98 (by decide) ?_
  refine x_iload_n hx hb hl 0 rfl dX2_init_82 rfl ?_
  refine x_bipush hx hb dX2_init_83 (by decide) ?_
  refine x_icmp_ge (tgt := 101) hx hb (by decide) (by decide) dX2_init_85 (by decide) (fun h9 => absurd h9 (by decide)) (fun _ => ?_)
  refine x_aload_n hx hb hl 1 rfl dX2_init_88 rfl ?_
  refine b_get (j := 3) (v := .ref (h0 + 146 + 6)) hx hb hown hT hE hB cls_X2 0 (by decide) rfl (by decide) rfl wq388 dX2_init_89 ?_
  refine x_iload_n hx hb hl 0 rfl dX2_init_92 rfl ?_
  refine x_iconst hx hb dX2_init_93 ?_
  refine b_iast hx hb hE hB 6 (by decide) rfl (by decide) (by decide) dX2_init_94 (fun H locs hB => ?_)
  refine x_iinc (lv' := [(1, .int (xJ 8)), (0, .ref (h0 + 146))]) hx hb hl 0 rfl dX2_init_95 (by decide) rfl (fun ls hl => ?_)
  refine lv_goto (tgt := 82) hx hb dX2_init_98 (by decide) ?_
  refine x_iload_n hx hb hl 0 rfl dX2_init_82 rfl ?_
  refine x_bipush hx hb dX2_init_83 (by decide) ?_
  refine x_icmp_ge (tgt := 101) hx hb (by decide) (by decide) dX2_init_85 (by decide) (fun h9 => absurd h9 (by decide)) (fun _ => ?_)
  refine x_aload_n hx hb hl 1 rfl dX2_init_88 rfl ?_
  refine b_get (j := 3) (v := .ref (h0 + 146 + 6)) hx hb hown hT hE hB cls_X2 0 (by decide) rfl (by decide) rfl wq388 dX2_init_89 ?_
  refine x_iload_n hx hb hl 0 rfl dX2_init_92 rfl ?_
  refine x_iconst hx hb dX2_init_93 ?_
  refine b_iast hx hb hE hB 6 (by decide) rfl (by decide) (by decide) dX2_init_94 (fun H locs hB => ?_)
  refine x_iinc (lv' := [(1, .int (xJ 9)), (0, .ref (h0 + 146))]) hx hb hl 0 rfl dX2_init_95 (by decide) rfl (fun ls hl => ?_)
  refine lv_goto (tgt := 82) hx hb dX2_init_98 (by decide) ?_
  refine x_iload_n hx hb hl 0 rfl dX2_init_82 rfl ?_
  refine x_bipush hx hb dX2_init_83 (by decide) ?_
  refine x_icmp_ge (tgt := 101) hx hb (by decide) (by decide) dX2_init_85 (by decide) (fun h9 => absurd h9 (by decide)) (fun _ => ?_)
  refine x_aload_n hx hb hl 1 rfl dX2_init_88 rfl ?_
  refine b_get (j := 3) (v := .ref (h0 + 146 + 6)) hx hb hown hT hE hB cls_X2 0 (by decide) rfl (by decide) rfl wq388 dX2_init_89 ?_
  refine x_iload_n hx hb hl 0 rfl dX2_init_92 rfl ?_
  refine x_iconst hx hb dX2_init_93 ?_
  refine b_iast hx hb hE hB 6 (by decide) rfl (by decide) (by decide) dX2_init_94 (fun H locs hB => ?_)
  refine x_iinc (lv' := [(1, .int (xJ 10)), (0, .ref (h0 + 146))]) hx hb hl 0 rfl dX2_init_95 (by decide) rfl (fun ls hl => ?_)
  refine lv_goto (tgt := 82) hx hb dX2_init_98 (by decide) ?_
  refine x_iload_n hx hb hl 0 rfl dX2_init_82 rfl ?_
  refine x_bipush hx hb dX2_init_83 (by decide) ?_
  refine x_icmp_ge (tgt := 101) hx hb (by decide) (by decide) dX2_init_85 (by decide) (fun _ => ?_) (fun h9 => absurd h9 (by decide))
  refine x_aload_n hx hb hl 1 rfl dX2_init_101 rfl ?_
  refine x_iconst hx hb dX2_init_102 ?_
  refine b_put (j := 7) hx hb hown hT hE hB cls_X2 0 (by decide) rfl (by decide) (Nat.le_of_ble_eq_true rfl) rfl wq401 rfl rfl rfl dX2_init_103 (fun H locs hB => ?_)
  refine x_aload_n hx hb hl 1 rfl dX2_init_106 rfl ?_
  refine x_iconst hx hb dX2_init_107 ?_
  refine b_put (j := 8) hx hb hown hT hE hB cls_X2 0 (by decide) rfl (by decide) (Nat.le_of_ble_eq_true rfl) rfl wq404 rfl rfl rfl dX2_init_108 (fun H locs hB => ?_)
  refine x_aload_n hx hb hl 1 rfl dX2_init_111 rfl ?_
  refine x_iconst hx hb dX2_init_112 ?_
  refine b_put (j := 9) hx hb hown hT hE hB cls_X2 0 (by decide) rfl (by decide) (Nat.le_of_ble_eq_true rfl) rfl wq406 rfl rfl rfl dX2_init_113 (fun H locs hB => ?_)
  refine x_aload_n hx hb hl 1 rfl dX2_init_116 rfl ?_
  refine x_iconst hx hb dX2_init_117 ?_
  refine b_put (j := 10) hx hb hown hT hE hB cls_X2 0 (by decide) rfl (by decide) (Nat.le_of_ble_eq_true rfl) rfl wq409 rfl rfl rfl dX2_init_118 (fun H locs hB => ?_)
  refine x_aload_n hx hb hl 1 rfl dX2_init_121 rfl ?_
  refine x_iconst hx hb dX2_init_122 ?_
  refine b_put (j := 11) hx hb hown hT hE hB cls_X2 0 (by decide) rfl (by decide) (Nat.le_of_ble_eq_true rfl) rfl wq412 rfl rfl rfl dX2_init_123 (fun H locs hB => ?_)
  have hB := bB_arr (k := 1) (f' := fun j => xJ (xI 147 j)) hB rfl (by decide +kernel)
  have hB := bB_arr (k := 6) (f' := fun j => xJ (xI 152 j)) hB rfl (by decide +kernel)
  subst eQ
  refine b_vret hx hb hr hlk hB ?_ rfl rfl dX2_init_126
  refine allS ?_ rfl
  refine allS ?_ rfl
  refine allS ?_ rfl
  refine allS ?_ rfl
  refine allS ?_ rfl
  refine allS ?_ rfl
  refine allS ?_ rfl
  refine allS ?_ rfl
  refine allS ?_ rfl
  refine allS ?_ rfl
  exact allZ
theorem b_X2_158 (l : Launch) (D : va_G) (g : xG) (T : Nat × Nat × Nat) (h0 : Nat) : Met l yX2_init (xws yX2_init cX2_init 2 none) { frames := 1, cells := 9, slots := 46, locals := 20 } (bP [.ref (h0 + 158)] D g T (h0 + 158) (.inr (2, fz_X2))) (bQ D (h0 + 158) 10 (fun k => xcel h0 g xI (158 + k))) 9 46 (xA (h0 + 158)) := by
  refine b_met (by decide) (Nat.le_of_ble_eq_true rfl) ?_
  intro p e s m args below meth c hx hb hr hml hown hT hlk hnm hE hO hB ls hl
  have hl : lv_has ls 2 [(0, .ref (h0 + 158))] := hl
  obtain ⟨Q, eQ⟩ : ∃ Q, Q = MQ below (bQ D (h0 + 158) 10 (fun k => xcel h0 g xI (158 + k))) args s 9 46 (xA (h0 + 158)) := ⟨_, rfl⟩
  rw [← eQ]
  generalize hHe : ([] : List Loc) = locs at hB ⊢
  obtain ⟨H, eH⟩ : ∃ H, H = s.heap := ⟨_, rfl⟩
  rw [← eH] at hB ⊢
  refine x_aload_n hx hb hl 0 rfl dX2_init_0 rfl ?_
  refine b_obj hx hb (hml.trans hl.1.symm) hown hT bo381 bo_inst bo_code (by decide) (Nat.le_of_ble_eq_true rfl) dX2_init_1 ?_
  refine x_aload_n hx hb hl 0 rfl dX2_init_4 rfl ?_
  refine x_iconst hx hb dX2_init_5 ?_
  refine b_newaI (N := 2) hx hb hT hE hB wq217 rfl (by decide) (by decide) (by decide) dX2_init_6 (fun H hB => ?_)
  have hB := bB_n (n1 := 2) rfl hB
  refine b_putF (j := 0) hx hb hown hT hE hB cls_X2 0 (by decide) rfl (by decide) (Nat.le_of_ble_eq_true rfl) rfl wq383 rfl hnm rfl rfl rfl dX2_init_8 (fun H locs hB => ?_)
  refine x_aload_n hx hb hl 0 rfl dX2_init_11 rfl ?_
  refine x_iconst hx hb dX2_init_12 ?_
  refine x_iconst hx hb dX2_init_13 ?_
  refine b_mna (N := 2) (K := 0) hx hb hown hT hE hB wq382 hO wq217 rfl rfl (by decide) (by decide) (by decide) dX2_init_14 (fun H hB => ?_)
  have hB := bB_n (n1 := 5) rfl hB
  have hB := bB_arq (k := 2) (f' := fun j => some (h0 + xrow xI 160 j)) hB rfl (by
      refine allS ?_ rfl
      refine allS ?_ rfl
      exact allZ)
  refine b_putF (j := 1) hx hb hown hT hE hB cls_X2 0 (by decide) rfl (by decide) (Nat.le_of_ble_eq_true rfl) rfl wq386 rfl hnm rfl rfl rfl dX2_init_18 (fun H locs hB => ?_)
  refine x_aload_n hx hb hl 0 rfl dX2_init_21 rfl ?_
  refine x_iconst hx hb dX2_init_22 ?_
  refine b_newaI (N := 2) hx hb hT hE hB wq217 rfl (by decide) (by decide) (by decide) dX2_init_23 (fun H hB => ?_)
  have hB := bB_n (n1 := 6) rfl hB
  refine b_putF (j := 2) hx hb hown hT hE hB cls_X2 0 (by decide) rfl (by decide) (Nat.le_of_ble_eq_true rfl) rfl wq387 rfl hnm rfl rfl rfl dX2_init_25 (fun H locs hB => ?_)
  refine x_aload_n hx hb hl 0 rfl dX2_init_28 rfl ?_
  refine x_bipush hx hb dX2_init_29 (by decide) ?_
  refine b_newaI (N := 10) hx hb hT hE hB wq217 rfl (by decide) (by decide) (by decide) dX2_init_31 (fun H hB => ?_)
  have hB := bB_n (n1 := 7) rfl hB
  refine b_putF (j := 3) hx hb hown hT hE hB cls_X2 0 (by decide) rfl (by decide) (Nat.le_of_ble_eq_true rfl) rfl wq388 rfl hnm rfl rfl rfl dX2_init_33 (fun H locs hB => ?_)
  refine x_aload_n hx hb hl 0 rfl dX2_init_36 rfl ?_
  refine x_bipush hx hb dX2_init_37 (by decide) ?_
  refine b_newaI (N := 10) hx hb hT hE hB wq217 rfl (by decide) (by decide) (by decide) dX2_init_39 (fun H hB => ?_)
  have hB := bB_n (n1 := 8) rfl hB
  refine b_putF (j := 4) hx hb hown hT hE hB cls_X2 0 (by decide) rfl (by decide) (Nat.le_of_ble_eq_true rfl) rfl wq392 rfl hnm rfl rfl rfl dX2_init_41 (fun H locs hB => ?_)
  refine x_aload_n hx hb hl 0 rfl dX2_init_44 rfl ?_
  refine x_bipush hx hb dX2_init_45 (by decide) ?_
  refine b_newaI (N := 10) hx hb hT hE hB wq217 rfl (by decide) (by decide) (by decide) dX2_init_47 (fun H hB => ?_)
  have hB := bB_n (n1 := 9) rfl hB
  refine b_putF (j := 5) hx hb hown hT hE hB cls_X2 0 (by decide) rfl (by decide) (Nat.le_of_ble_eq_true rfl) rfl wq395 rfl hnm rfl rfl rfl dX2_init_49 (fun H locs hB => ?_)
  refine x_aload_n hx hb hl 0 rfl dX2_init_52 rfl ?_
  refine x_bipush hx hb dX2_init_53 (by decide) ?_
  refine b_newaZ (N := 10) hx hb hT hE hB wq242 rfl (by decide) (by decide) (by decide) dX2_init_55 (fun H hB => ?_)
  have hB := bB_n (n1 := 10) rfl hB
  refine b_putF (j := 6) hx hb hown hT hE hB cls_X2 0 (by decide) rfl (by decide) (Nat.le_of_ble_eq_true rfl) rfl wq398 rfl hnm rfl rfl rfl dX2_init_57 (fun H locs hB => ?_)
  refine x_iconst hx hb dX2_init_60 ?_
  refine lv_istore_n (lv' := [(1, .int (xJ 0)), (0, .ref (h0 + 158))]) hx hb dX2_init_61 rfl hl (by decide) rfl (fun ls hl => ?_)
  refine x_iload_n hx hb hl 0 rfl dX2_init_62 rfl ?_
  refine x_iconst hx hb dX2_init_63 ?_
  refine x_icmp_ge (tgt := 80) hx hb (by decide) (by decide) dX2_init_64 (by decide) (fun h9 => absurd h9 (by decide)) (fun _ => ?_)
  refine x_aload_n hx hb hl 1 rfl dX2_init_67 rfl ?_
  refine b_get (j := 0) (v := .ref (h0 + 158 + 1)) hx hb hown hT hE hB cls_X2 0 (by decide) rfl (by decide) rfl wq383 dX2_init_68 ?_
  refine x_iload_n hx hb hl 0 rfl dX2_init_71 rfl ?_
  refine x_iconst hx hb dX2_init_72 ?_
  refine b_iast hx hb hE hB 1 (by decide) rfl (by decide) (by decide) dX2_init_73 (fun H locs hB => ?_)
  refine x_iinc (lv' := [(1, .int (xJ 1)), (0, .ref (h0 + 158))]) hx hb hl 0 rfl dX2_init_74 (by decide) rfl (fun ls hl => ?_)
  refine lv_goto (tgt := 62) hx hb dX2_init_77 (by decide) ?_
  refine x_iload_n hx hb hl 0 rfl dX2_init_62 rfl ?_
  refine x_iconst hx hb dX2_init_63 ?_
  refine x_icmp_ge (tgt := 80) hx hb (by decide) (by decide) dX2_init_64 (by decide) (fun h9 => absurd h9 (by decide)) (fun _ => ?_)
  refine x_aload_n hx hb hl 1 rfl dX2_init_67 rfl ?_
  refine b_get (j := 0) (v := .ref (h0 + 158 + 1)) hx hb hown hT hE hB cls_X2 0 (by decide) rfl (by decide) rfl wq383 dX2_init_68 ?_
  refine x_iload_n hx hb hl 0 rfl dX2_init_71 rfl ?_
  refine x_iconst hx hb dX2_init_72 ?_
  refine b_iast hx hb hE hB 1 (by decide) rfl (by decide) (by decide) dX2_init_73 (fun H locs hB => ?_)
  refine x_iinc (lv' := [(1, .int (xJ 2)), (0, .ref (h0 + 158))]) hx hb hl 0 rfl dX2_init_74 (by decide) rfl (fun ls hl => ?_)
  refine lv_goto (tgt := 62) hx hb dX2_init_77 (by decide) ?_
  refine x_iload_n hx hb hl 0 rfl dX2_init_62 rfl ?_
  refine x_iconst hx hb dX2_init_63 ?_
  refine x_icmp_ge (tgt := 80) hx hb (by decide) (by decide) dX2_init_64 (by decide) (fun _ => ?_) (fun h9 => absurd h9 (by decide))
  refine x_iconst hx hb dX2_init_80 ?_
  refine lv_istore_n (lv' := [(1, .int (xJ 0)), (0, .ref (h0 + 158))]) hx hb dX2_init_81 rfl hl (by decide) rfl (fun ls hl => ?_)
  refine x_iload_n hx hb hl 0 rfl dX2_init_82 rfl ?_
  refine x_bipush hx hb dX2_init_83 (by decide) ?_
  refine x_icmp_ge (tgt := 101) hx hb (by decide) (by decide) dX2_init_85 (by decide) (fun h9 => absurd h9 (by decide)) (fun _ => ?_)
  refine x_aload_n hx hb hl 1 rfl dX2_init_88 rfl ?_
  refine b_get (j := 3) (v := .ref (h0 + 158 + 6)) hx hb hown hT hE hB cls_X2 0 (by decide) rfl (by decide) rfl wq388 dX2_init_89 ?_
  refine x_iload_n hx hb hl 0 rfl dX2_init_92 rfl ?_
  refine x_iconst hx hb dX2_init_93 ?_
  refine b_iast hx hb hE hB 6 (by decide) rfl (by decide) (by decide) dX2_init_94 (fun H locs hB => ?_)
  refine x_iinc (lv' := [(1, .int (xJ 1)), (0, .ref (h0 + 158))]) hx hb hl 0 rfl dX2_init_95 (by decide) rfl (fun ls hl => ?_)
  refine lv_goto (tgt := 82) hx hb dX2_init_98 (by decide) ?_
  refine x_iload_n hx hb hl 0 rfl dX2_init_82 rfl ?_
  refine x_bipush hx hb dX2_init_83 (by decide) ?_
  refine x_icmp_ge (tgt := 101) hx hb (by decide) (by decide) dX2_init_85 (by decide) (fun h9 => absurd h9 (by decide)) (fun _ => ?_)
  refine x_aload_n hx hb hl 1 rfl dX2_init_88 rfl ?_
  refine b_get (j := 3) (v := .ref (h0 + 158 + 6)) hx hb hown hT hE hB cls_X2 0 (by decide) rfl (by decide) rfl wq388 dX2_init_89 ?_
  refine x_iload_n hx hb hl 0 rfl dX2_init_92 rfl ?_
  refine x_iconst hx hb dX2_init_93 ?_
  refine b_iast hx hb hE hB 6 (by decide) rfl (by decide) (by decide) dX2_init_94 (fun H locs hB => ?_)
  refine x_iinc (lv' := [(1, .int (xJ 2)), (0, .ref (h0 + 158))]) hx hb hl 0 rfl dX2_init_95 (by decide) rfl (fun ls hl => ?_)
  refine lv_goto (tgt := 82) hx hb dX2_init_98 (by decide) ?_
  refine x_iload_n hx hb hl 0 rfl dX2_init_82 rfl ?_
  refine x_bipush hx hb dX2_init_83 (by decide) ?_
  refine x_icmp_ge (tgt := 101) hx hb (by decide) (by decide) dX2_init_85 (by decide) (fun h9 => absurd h9 (by decide)) (fun _ => ?_)
  refine x_aload_n hx hb hl 1 rfl dX2_init_88 rfl ?_
  refine b_get (j := 3) (v := .ref (h0 + 158 + 6)) hx hb hown hT hE hB cls_X2 0 (by decide) rfl (by decide) rfl wq388 dX2_init_89 ?_
  refine x_iload_n hx hb hl 0 rfl dX2_init_92 rfl ?_
  refine x_iconst hx hb dX2_init_93 ?_
  refine b_iast hx hb hE hB 6 (by decide) rfl (by decide) (by decide) dX2_init_94 (fun H locs hB => ?_)
  refine x_iinc (lv' := [(1, .int (xJ 3)), (0, .ref (h0 + 158))]) hx hb hl 0 rfl dX2_init_95 (by decide) rfl (fun ls hl => ?_)
  refine lv_goto (tgt := 82) hx hb dX2_init_98 (by decide) ?_
  refine x_iload_n hx hb hl 0 rfl dX2_init_82 rfl ?_
  refine x_bipush hx hb dX2_init_83 (by decide) ?_
  refine x_icmp_ge (tgt := 101) hx hb (by decide) (by decide) dX2_init_85 (by decide) (fun h9 => absurd h9 (by decide)) (fun _ => ?_)
  refine x_aload_n hx hb hl 1 rfl dX2_init_88 rfl ?_
  refine b_get (j := 3) (v := .ref (h0 + 158 + 6)) hx hb hown hT hE hB cls_X2 0 (by decide) rfl (by decide) rfl wq388 dX2_init_89 ?_
  refine x_iload_n hx hb hl 0 rfl dX2_init_92 rfl ?_
  refine x_iconst hx hb dX2_init_93 ?_
  refine b_iast hx hb hE hB 6 (by decide) rfl (by decide) (by decide) dX2_init_94 (fun H locs hB => ?_)
  refine x_iinc (lv' := [(1, .int (xJ 4)), (0, .ref (h0 + 158))]) hx hb hl 0 rfl dX2_init_95 (by decide) rfl (fun ls hl => ?_)
  refine lv_goto (tgt := 82) hx hb dX2_init_98 (by decide) ?_
  refine x_iload_n hx hb hl 0 rfl dX2_init_82 rfl ?_
  refine x_bipush hx hb dX2_init_83 (by decide) ?_
  refine x_icmp_ge (tgt := 101) hx hb (by decide) (by decide) dX2_init_85 (by decide) (fun h9 => absurd h9 (by decide)) (fun _ => ?_)
  refine x_aload_n hx hb hl 1 rfl dX2_init_88 rfl ?_
  refine b_get (j := 3) (v := .ref (h0 + 158 + 6)) hx hb hown hT hE hB cls_X2 0 (by decide) rfl (by decide) rfl wq388 dX2_init_89 ?_
  refine x_iload_n hx hb hl 0 rfl dX2_init_92 rfl ?_
  refine x_iconst hx hb dX2_init_93 ?_
  refine b_iast hx hb hE hB 6 (by decide) rfl (by decide) (by decide) dX2_init_94 (fun H locs hB => ?_)
  refine x_iinc (lv' := [(1, .int (xJ 5)), (0, .ref (h0 + 158))]) hx hb hl 0 rfl dX2_init_95 (by decide) rfl (fun ls hl => ?_)
  refine lv_goto (tgt := 82) hx hb dX2_init_98 (by decide) ?_
  refine x_iload_n hx hb hl 0 rfl dX2_init_82 rfl ?_
  refine x_bipush hx hb dX2_init_83 (by decide) ?_
  refine x_icmp_ge (tgt := 101) hx hb (by decide) (by decide) dX2_init_85 (by decide) (fun h9 => absurd h9 (by decide)) (fun _ => ?_)
  refine x_aload_n hx hb hl 1 rfl dX2_init_88 rfl ?_
  refine b_get (j := 3) (v := .ref (h0 + 158 + 6)) hx hb hown hT hE hB cls_X2 0 (by decide) rfl (by decide) rfl wq388 dX2_init_89 ?_
  refine x_iload_n hx hb hl 0 rfl dX2_init_92 rfl ?_
  refine x_iconst hx hb dX2_init_93 ?_
  refine b_iast hx hb hE hB 6 (by decide) rfl (by decide) (by decide) dX2_init_94 (fun H locs hB => ?_)
  refine x_iinc (lv' := [(1, .int (xJ 6)), (0, .ref (h0 + 158))]) hx hb hl 0 rfl dX2_init_95 (by decide) rfl (fun ls hl => ?_)
  refine lv_goto (tgt := 82) hx hb dX2_init_98 (by decide) ?_
  refine x_iload_n hx hb hl 0 rfl dX2_init_82 rfl ?_
  refine x_bipush hx hb dX2_init_83 (by decide) ?_
  refine x_icmp_ge (tgt := 101) hx hb (by decide) (by decide) dX2_init_85 (by decide) (fun h9 => absurd h9 (by decide)) (fun _ => ?_)
  refine x_aload_n hx hb hl 1 rfl dX2_init_88 rfl ?_
  refine b_get (j := 3) (v := .ref (h0 + 158 + 6)) hx hb hown hT hE hB cls_X2 0 (by decide) rfl (by decide) rfl wq388 dX2_init_89 ?_
  refine x_iload_n hx hb hl 0 rfl dX2_init_92 rfl ?_
  refine x_iconst hx hb dX2_init_93 ?_
  refine b_iast hx hb hE hB 6 (by decide) rfl (by decide) (by decide) dX2_init_94 (fun H locs hB => ?_)
  refine x_iinc (lv' := [(1, .int (xJ 7)), (0, .ref (h0 + 158))]) hx hb hl 0 rfl dX2_init_95 (by decide) rfl (fun ls hl => ?_)
  refine lv_goto (tgt := 82) hx hb dX2_init_98 (by decide) ?_
  refine x_iload_n hx hb hl 0 rfl dX2_init_82 rfl ?_
  refine x_bipush hx hb dX2_init_83 (by decide) ?_
  refine x_icmp_ge (tgt := 101) hx hb (by decide) (by decide) dX2_init_85 (by decide) (fun h9 => absurd h9 (by decide)) (fun _ => ?_)
  refine x_aload_n hx hb hl 1 rfl dX2_init_88 rfl ?_
  refine b_get (j := 3) (v := .ref (h0 + 158 + 6)) hx hb hown hT hE hB cls_X2 0 (by decide) rfl (by decide) rfl wq388 dX2_init_89 ?_
  refine x_iload_n hx hb hl 0 rfl dX2_init_92 rfl ?_
  refine x_iconst hx hb dX2_init_93 ?_
  refine b_iast hx hb hE hB 6 (by decide) rfl (by decide) (by decide) dX2_init_94 (fun H locs hB => ?_)
  refine x_iinc (lv' := [(1, .int (xJ 8)), (0, .ref (h0 + 158))]) hx hb hl 0 rfl dX2_init_95 (by decide) rfl (fun ls hl => ?_)
  refine lv_goto (tgt := 82) hx hb dX2_init_98 (by decide) ?_
  refine x_iload_n hx hb hl 0 rfl dX2_init_82 rfl ?_
  refine x_bipush hx hb dX2_init_83 (by decide) ?_
  refine x_icmp_ge (tgt := 101) hx hb (by decide) (by decide) dX2_init_85 (by decide) (fun h9 => absurd h9 (by decide)) (fun _ => ?_)
  refine x_aload_n hx hb hl 1 rfl dX2_init_88 rfl ?_
  refine b_get (j := 3) (v := .ref (h0 + 158 + 6)) hx hb hown hT hE hB cls_X2 0 (by decide) rfl (by decide) rfl wq388 dX2_init_89 ?_
  refine x_iload_n hx hb hl 0 rfl dX2_init_92 rfl ?_
  refine x_iconst hx hb dX2_init_93 ?_
  refine b_iast hx hb hE hB 6 (by decide) rfl (by decide) (by decide) dX2_init_94 (fun H locs hB => ?_)
  refine x_iinc (lv' := [(1, .int (xJ 9)), (0, .ref (h0 + 158))]) hx hb hl 0 rfl dX2_init_95 (by decide) rfl (fun ls hl => ?_)
  refine lv_goto (tgt := 82) hx hb dX2_init_98 (by decide) ?_
  refine x_iload_n hx hb hl 0 rfl dX2_init_82 rfl ?_
  refine x_bipush hx hb dX2_init_83 (by decide) ?_
  refine x_icmp_ge (tgt := 101) hx hb (by decide) (by decide) dX2_init_85 (by decide) (fun h9 => absurd h9 (by decide)) (fun _ => ?_)
  refine x_aload_n hx hb hl 1 rfl dX2_init_88 rfl ?_
  refine b_get (j := 3) (v := .ref (h0 + 158 + 6)) hx hb hown hT hE hB cls_X2 0 (by decide) rfl (by decide) rfl wq388 dX2_init_89 ?_
  refine x_iload_n hx hb hl 0 rfl dX2_init_92 rfl ?_
  refine x_iconst hx hb dX2_init_93 ?_
  refine b_iast hx hb hE hB 6 (by decide) rfl (by decide) (by decide) dX2_init_94 (fun H locs hB => ?_)
  refine x_iinc (lv' := [(1, .int (xJ 10)), (0, .ref (h0 + 158))]) hx hb hl 0 rfl dX2_init_95 (by decide) rfl (fun ls hl => ?_)
  refine lv_goto (tgt := 82) hx hb dX2_init_98 (by decide) ?_
  refine x_iload_n hx hb hl 0 rfl dX2_init_82 rfl ?_
  refine x_bipush hx hb dX2_init_83 (by decide) ?_
  refine x_icmp_ge (tgt := 101) hx hb (by decide) (by decide) dX2_init_85 (by decide) (fun _ => ?_) (fun h9 => absurd h9 (by decide))
  refine x_aload_n hx hb hl 1 rfl dX2_init_101 rfl ?_
  refine x_iconst hx hb dX2_init_102 ?_
  refine b_put (j := 7) hx hb hown hT hE hB cls_X2 0 (by decide) rfl (by decide) (Nat.le_of_ble_eq_true rfl) rfl wq401 rfl rfl rfl dX2_init_103 (fun H locs hB => ?_)
  refine x_aload_n hx hb hl 1 rfl dX2_init_106 rfl ?_
  refine x_iconst hx hb dX2_init_107 ?_
  refine b_put (j := 8) hx hb hown hT hE hB cls_X2 0 (by decide) rfl (by decide) (Nat.le_of_ble_eq_true rfl) rfl wq404 rfl rfl rfl dX2_init_108 (fun H locs hB => ?_)
  refine x_aload_n hx hb hl 1 rfl dX2_init_111 rfl ?_
  refine x_iconst hx hb dX2_init_112 ?_
  refine b_put (j := 9) hx hb hown hT hE hB cls_X2 0 (by decide) rfl (by decide) (Nat.le_of_ble_eq_true rfl) rfl wq406 rfl rfl rfl dX2_init_113 (fun H locs hB => ?_)
  refine x_aload_n hx hb hl 1 rfl dX2_init_116 rfl ?_
  refine x_iconst hx hb dX2_init_117 ?_
  refine b_put (j := 10) hx hb hown hT hE hB cls_X2 0 (by decide) rfl (by decide) (Nat.le_of_ble_eq_true rfl) rfl wq409 rfl rfl rfl dX2_init_118 (fun H locs hB => ?_)
  refine x_aload_n hx hb hl 1 rfl dX2_init_121 rfl ?_
  refine x_iconst hx hb dX2_init_122 ?_
  refine b_put (j := 11) hx hb hown hT hE hB cls_X2 0 (by decide) rfl (by decide) (Nat.le_of_ble_eq_true rfl) rfl wq412 rfl rfl rfl dX2_init_123 (fun H locs hB => ?_)
  have hB := bB_arr (k := 1) (f' := fun j => xJ (xI 159 j)) hB rfl (by decide +kernel)
  have hB := bB_arr (k := 6) (f' := fun j => xJ (xI 164 j)) hB rfl (by decide +kernel)
  subst eQ
  refine b_vret hx hb hr hlk hB ?_ rfl rfl dX2_init_126
  refine allS ?_ rfl
  refine allS ?_ rfl
  refine allS ?_ rfl
  refine allS ?_ rfl
  refine allS ?_ rfl
  refine allS ?_ rfl
  refine allS ?_ rfl
  refine allS ?_ rfl
  refine allS ?_ rfl
  refine allS ?_ rfl
  exact allZ
theorem b_X2_168 (l : Launch) (D : va_G) (g : xG) (T : Nat × Nat × Nat) (h0 : Nat) : Met l yX2_init (xws yX2_init cX2_init 2 none) { frames := 1, cells := 9, slots := 46, locals := 20 } (bP [.ref (h0 + 168)] D g T (h0 + 168) (.inr (2, fz_X2))) (bQ D (h0 + 168) 10 (fun k => xcel h0 g xI (168 + k))) 9 46 (xA (h0 + 168)) := by
  refine b_met (by decide) (Nat.le_of_ble_eq_true rfl) ?_
  intro p e s m args below meth c hx hb hr hml hown hT hlk hnm hE hO hB ls hl
  have hl : lv_has ls 2 [(0, .ref (h0 + 168))] := hl
  obtain ⟨Q, eQ⟩ : ∃ Q, Q = MQ below (bQ D (h0 + 168) 10 (fun k => xcel h0 g xI (168 + k))) args s 9 46 (xA (h0 + 168)) := ⟨_, rfl⟩
  rw [← eQ]
  generalize hHe : ([] : List Loc) = locs at hB ⊢
  obtain ⟨H, eH⟩ : ∃ H, H = s.heap := ⟨_, rfl⟩
  rw [← eH] at hB ⊢
  refine x_aload_n hx hb hl 0 rfl dX2_init_0 rfl ?_
  refine b_obj hx hb (hml.trans hl.1.symm) hown hT bo381 bo_inst bo_code (by decide) (Nat.le_of_ble_eq_true rfl) dX2_init_1 ?_
  refine x_aload_n hx hb hl 0 rfl dX2_init_4 rfl ?_
  refine x_iconst hx hb dX2_init_5 ?_
  refine b_newaI (N := 2) hx hb hT hE hB wq217 rfl (by decide) (by decide) (by decide) dX2_init_6 (fun H hB => ?_)
  have hB := bB_n (n1 := 2) rfl hB
  refine b_putF (j := 0) hx hb hown hT hE hB cls_X2 0 (by decide) rfl (by decide) (Nat.le_of_ble_eq_true rfl) rfl wq383 rfl hnm rfl rfl rfl dX2_init_8 (fun H locs hB => ?_)
  refine x_aload_n hx hb hl 0 rfl dX2_init_11 rfl ?_
  refine x_iconst hx hb dX2_init_12 ?_
  refine x_iconst hx hb dX2_init_13 ?_
  refine b_mna (N := 2) (K := 0) hx hb hown hT hE hB wq382 hO wq217 rfl rfl (by decide) (by decide) (by decide) dX2_init_14 (fun H hB => ?_)
  have hB := bB_n (n1 := 5) rfl hB
  have hB := bB_arq (k := 2) (f' := fun j => some (h0 + xrow xI 170 j)) hB rfl (by
      refine allS ?_ rfl
      refine allS ?_ rfl
      exact allZ)
  refine b_putF (j := 1) hx hb hown hT hE hB cls_X2 0 (by decide) rfl (by decide) (Nat.le_of_ble_eq_true rfl) rfl wq386 rfl hnm rfl rfl rfl dX2_init_18 (fun H locs hB => ?_)
  refine x_aload_n hx hb hl 0 rfl dX2_init_21 rfl ?_
  refine x_iconst hx hb dX2_init_22 ?_
  refine b_newaI (N := 2) hx hb hT hE hB wq217 rfl (by decide) (by decide) (by decide) dX2_init_23 (fun H hB => ?_)
  have hB := bB_n (n1 := 6) rfl hB
  refine b_putF (j := 2) hx hb hown hT hE hB cls_X2 0 (by decide) rfl (by decide) (Nat.le_of_ble_eq_true rfl) rfl wq387 rfl hnm rfl rfl rfl dX2_init_25 (fun H locs hB => ?_)
  refine x_aload_n hx hb hl 0 rfl dX2_init_28 rfl ?_
  refine x_bipush hx hb dX2_init_29 (by decide) ?_
  refine b_newaI (N := 10) hx hb hT hE hB wq217 rfl (by decide) (by decide) (by decide) dX2_init_31 (fun H hB => ?_)
  have hB := bB_n (n1 := 7) rfl hB
  refine b_putF (j := 3) hx hb hown hT hE hB cls_X2 0 (by decide) rfl (by decide) (Nat.le_of_ble_eq_true rfl) rfl wq388 rfl hnm rfl rfl rfl dX2_init_33 (fun H locs hB => ?_)
  refine x_aload_n hx hb hl 0 rfl dX2_init_36 rfl ?_
  refine x_bipush hx hb dX2_init_37 (by decide) ?_
  refine b_newaI (N := 10) hx hb hT hE hB wq217 rfl (by decide) (by decide) (by decide) dX2_init_39 (fun H hB => ?_)
  have hB := bB_n (n1 := 8) rfl hB
  refine b_putF (j := 4) hx hb hown hT hE hB cls_X2 0 (by decide) rfl (by decide) (Nat.le_of_ble_eq_true rfl) rfl wq392 rfl hnm rfl rfl rfl dX2_init_41 (fun H locs hB => ?_)
  refine x_aload_n hx hb hl 0 rfl dX2_init_44 rfl ?_
  refine x_bipush hx hb dX2_init_45 (by decide) ?_
  refine b_newaI (N := 10) hx hb hT hE hB wq217 rfl (by decide) (by decide) (by decide) dX2_init_47 (fun H hB => ?_)
  have hB := bB_n (n1 := 9) rfl hB
  refine b_putF (j := 5) hx hb hown hT hE hB cls_X2 0 (by decide) rfl (by decide) (Nat.le_of_ble_eq_true rfl) rfl wq395 rfl hnm rfl rfl rfl dX2_init_49 (fun H locs hB => ?_)
  refine x_aload_n hx hb hl 0 rfl dX2_init_52 rfl ?_
  refine x_bipush hx hb dX2_init_53 (by decide) ?_
  refine b_newaZ (N := 10) hx hb hT hE hB wq242 rfl (by decide) (by decide) (by decide) dX2_init_55 (fun H hB => ?_)
  have hB := bB_n (n1 := 10) rfl hB
  refine b_putF (j := 6) hx hb hown hT hE hB cls_X2 0 (by decide) rfl (by decide) (Nat.le_of_ble_eq_true rfl) rfl wq398 rfl hnm rfl rfl rfl dX2_init_57 (fun H locs hB => ?_)
  refine x_iconst hx hb dX2_init_60 ?_
  refine lv_istore_n (lv' := [(1, .int (xJ 0)), (0, .ref (h0 + 168))]) hx hb dX2_init_61 rfl hl (by decide) rfl (fun ls hl => ?_)
  refine x_iload_n hx hb hl 0 rfl dX2_init_62 rfl ?_
  refine x_iconst hx hb dX2_init_63 ?_
  refine x_icmp_ge (tgt := 80) hx hb (by decide) (by decide) dX2_init_64 (by decide) (fun h9 => absurd h9 (by decide)) (fun _ => ?_)
  refine x_aload_n hx hb hl 1 rfl dX2_init_67 rfl ?_
  refine b_get (j := 0) (v := .ref (h0 + 168 + 1)) hx hb hown hT hE hB cls_X2 0 (by decide) rfl (by decide) rfl wq383 dX2_init_68 ?_
  refine x_iload_n hx hb hl 0 rfl dX2_init_71 rfl ?_
  refine x_iconst hx hb dX2_init_72 ?_
  refine b_iast hx hb hE hB 1 (by decide) rfl (by decide) (by decide) dX2_init_73 (fun H locs hB => ?_)
  refine x_iinc (lv' := [(1, .int (xJ 1)), (0, .ref (h0 + 168))]) hx hb hl 0 rfl dX2_init_74 (by decide) rfl (fun ls hl => ?_)
  refine lv_goto (tgt := 62) hx hb dX2_init_77 (by decide) ?_
  refine x_iload_n hx hb hl 0 rfl dX2_init_62 rfl ?_
  refine x_iconst hx hb dX2_init_63 ?_
  refine x_icmp_ge (tgt := 80) hx hb (by decide) (by decide) dX2_init_64 (by decide) (fun h9 => absurd h9 (by decide)) (fun _ => ?_)
  refine x_aload_n hx hb hl 1 rfl dX2_init_67 rfl ?_
  refine b_get (j := 0) (v := .ref (h0 + 168 + 1)) hx hb hown hT hE hB cls_X2 0 (by decide) rfl (by decide) rfl wq383 dX2_init_68 ?_
  refine x_iload_n hx hb hl 0 rfl dX2_init_71 rfl ?_
  refine x_iconst hx hb dX2_init_72 ?_
  refine b_iast hx hb hE hB 1 (by decide) rfl (by decide) (by decide) dX2_init_73 (fun H locs hB => ?_)
  refine x_iinc (lv' := [(1, .int (xJ 2)), (0, .ref (h0 + 168))]) hx hb hl 0 rfl dX2_init_74 (by decide) rfl (fun ls hl => ?_)
  refine lv_goto (tgt := 62) hx hb dX2_init_77 (by decide) ?_
  refine x_iload_n hx hb hl 0 rfl dX2_init_62 rfl ?_
  refine x_iconst hx hb dX2_init_63 ?_
  refine x_icmp_ge (tgt := 80) hx hb (by decide) (by decide) dX2_init_64 (by decide) (fun _ => ?_) (fun h9 => absurd h9 (by decide))
  refine x_iconst hx hb dX2_init_80 ?_
  refine lv_istore_n (lv' := [(1, .int (xJ 0)), (0, .ref (h0 + 168))]) hx hb dX2_init_81 rfl hl (by decide) rfl (fun ls hl => ?_)
  refine x_iload_n hx hb hl 0 rfl dX2_init_82 rfl ?_
  refine x_bipush hx hb dX2_init_83 (by decide) ?_
  refine x_icmp_ge (tgt := 101) hx hb (by decide) (by decide) dX2_init_85 (by decide) (fun h9 => absurd h9 (by decide)) (fun _ => ?_)
  refine x_aload_n hx hb hl 1 rfl dX2_init_88 rfl ?_
  refine b_get (j := 3) (v := .ref (h0 + 168 + 6)) hx hb hown hT hE hB cls_X2 0 (by decide) rfl (by decide) rfl wq388 dX2_init_89 ?_
  refine x_iload_n hx hb hl 0 rfl dX2_init_92 rfl ?_
  refine x_iconst hx hb dX2_init_93 ?_
  refine b_iast hx hb hE hB 6 (by decide) rfl (by decide) (by decide) dX2_init_94 (fun H locs hB => ?_)
  refine x_iinc (lv' := [(1, .int (xJ 1)), (0, .ref (h0 + 168))]) hx hb hl 0 rfl dX2_init_95 (by decide) rfl (fun ls hl => ?_)
  refine lv_goto (tgt := 82) hx hb dX2_init_98 (by decide) ?_
  refine x_iload_n hx hb hl 0 rfl dX2_init_82 rfl ?_
  refine x_bipush hx hb dX2_init_83 (by decide) ?_
  refine x_icmp_ge (tgt := 101) hx hb (by decide) (by decide) dX2_init_85 (by decide) (fun h9 => absurd h9 (by decide)) (fun _ => ?_)
  refine x_aload_n hx hb hl 1 rfl dX2_init_88 rfl ?_
  refine b_get (j := 3) (v := .ref (h0 + 168 + 6)) hx hb hown hT hE hB cls_X2 0 (by decide) rfl (by decide) rfl wq388 dX2_init_89 ?_
  refine x_iload_n hx hb hl 0 rfl dX2_init_92 rfl ?_
  refine x_iconst hx hb dX2_init_93 ?_
  refine b_iast hx hb hE hB 6 (by decide) rfl (by decide) (by decide) dX2_init_94 (fun H locs hB => ?_)
  refine x_iinc (lv' := [(1, .int (xJ 2)), (0, .ref (h0 + 168))]) hx hb hl 0 rfl dX2_init_95 (by decide) rfl (fun ls hl => ?_)
  refine lv_goto (tgt := 82) hx hb dX2_init_98 (by decide) ?_
  refine x_iload_n hx hb hl 0 rfl dX2_init_82 rfl ?_
  refine x_bipush hx hb dX2_init_83 (by decide) ?_
  refine x_icmp_ge (tgt := 101) hx hb (by decide) (by decide) dX2_init_85 (by decide) (fun h9 => absurd h9 (by decide)) (fun _ => ?_)
  refine x_aload_n hx hb hl 1 rfl dX2_init_88 rfl ?_
  refine b_get (j := 3) (v := .ref (h0 + 168 + 6)) hx hb hown hT hE hB cls_X2 0 (by decide) rfl (by decide) rfl wq388 dX2_init_89 ?_
  refine x_iload_n hx hb hl 0 rfl dX2_init_92 rfl ?_
  refine x_iconst hx hb dX2_init_93 ?_
  refine b_iast hx hb hE hB 6 (by decide) rfl (by decide) (by decide) dX2_init_94 (fun H locs hB => ?_)
  refine x_iinc (lv' := [(1, .int (xJ 3)), (0, .ref (h0 + 168))]) hx hb hl 0 rfl dX2_init_95 (by decide) rfl (fun ls hl => ?_)
  refine lv_goto (tgt := 82) hx hb dX2_init_98 (by decide) ?_
  refine x_iload_n hx hb hl 0 rfl dX2_init_82 rfl ?_
  refine x_bipush hx hb dX2_init_83 (by decide) ?_
  refine x_icmp_ge (tgt := 101) hx hb (by decide) (by decide) dX2_init_85 (by decide) (fun h9 => absurd h9 (by decide)) (fun _ => ?_)
  refine x_aload_n hx hb hl 1 rfl dX2_init_88 rfl ?_
  refine b_get (j := 3) (v := .ref (h0 + 168 + 6)) hx hb hown hT hE hB cls_X2 0 (by decide) rfl (by decide) rfl wq388 dX2_init_89 ?_
  refine x_iload_n hx hb hl 0 rfl dX2_init_92 rfl ?_
  refine x_iconst hx hb dX2_init_93 ?_
  refine b_iast hx hb hE hB 6 (by decide) rfl (by decide) (by decide) dX2_init_94 (fun H locs hB => ?_)
  refine x_iinc (lv' := [(1, .int (xJ 4)), (0, .ref (h0 + 168))]) hx hb hl 0 rfl dX2_init_95 (by decide) rfl (fun ls hl => ?_)
  refine lv_goto (tgt := 82) hx hb dX2_init_98 (by decide) ?_
  refine x_iload_n hx hb hl 0 rfl dX2_init_82 rfl ?_
  refine x_bipush hx hb dX2_init_83 (by decide) ?_
  refine x_icmp_ge (tgt := 101) hx hb (by decide) (by decide) dX2_init_85 (by decide) (fun h9 => absurd h9 (by decide)) (fun _ => ?_)
  refine x_aload_n hx hb hl 1 rfl dX2_init_88 rfl ?_
  refine b_get (j := 3) (v := .ref (h0 + 168 + 6)) hx hb hown hT hE hB cls_X2 0 (by decide) rfl (by decide) rfl wq388 dX2_init_89 ?_
  refine x_iload_n hx hb hl 0 rfl dX2_init_92 rfl ?_
  refine x_iconst hx hb dX2_init_93 ?_
  refine b_iast hx hb hE hB 6 (by decide) rfl (by decide) (by decide) dX2_init_94 (fun H locs hB => ?_)
  refine x_iinc (lv' := [(1, .int (xJ 5)), (0, .ref (h0 + 168))]) hx hb hl 0 rfl dX2_init_95 (by decide) rfl (fun ls hl => ?_)
  refine lv_goto (tgt := 82) hx hb dX2_init_98 (by decide) ?_
  refine x_iload_n hx hb hl 0 rfl dX2_init_82 rfl ?_
  refine x_bipush hx hb dX2_init_83 (by decide) ?_
  refine x_icmp_ge (tgt := 101) hx hb (by decide) (by decide) dX2_init_85 (by decide) (fun h9 => absurd h9 (by decide)) (fun _ => ?_)
  refine x_aload_n hx hb hl 1 rfl dX2_init_88 rfl ?_
  refine b_get (j := 3) (v := .ref (h0 + 168 + 6)) hx hb hown hT hE hB cls_X2 0 (by decide) rfl (by decide) rfl wq388 dX2_init_89 ?_
  refine x_iload_n hx hb hl 0 rfl dX2_init_92 rfl ?_
  refine x_iconst hx hb dX2_init_93 ?_
  refine b_iast hx hb hE hB 6 (by decide) rfl (by decide) (by decide) dX2_init_94 (fun H locs hB => ?_)
  refine x_iinc (lv' := [(1, .int (xJ 6)), (0, .ref (h0 + 168))]) hx hb hl 0 rfl dX2_init_95 (by decide) rfl (fun ls hl => ?_)
  refine lv_goto (tgt := 82) hx hb dX2_init_98 (by decide) ?_
  refine x_iload_n hx hb hl 0 rfl dX2_init_82 rfl ?_
  refine x_bipush hx hb dX2_init_83 (by decide) ?_
  refine x_icmp_ge (tgt := 101) hx hb (by decide) (by decide) dX2_init_85 (by decide) (fun h9 => absurd h9 (by decide)) (fun _ => ?_)
  refine x_aload_n hx hb hl 1 rfl dX2_init_88 rfl ?_
  refine b_get (j := 3) (v := .ref (h0 + 168 + 6)) hx hb hown hT hE hB cls_X2 0 (by decide) rfl (by decide) rfl wq388 dX2_init_89 ?_
  refine x_iload_n hx hb hl 0 rfl dX2_init_92 rfl ?_
  refine x_iconst hx hb dX2_init_93 ?_
  refine b_iast hx hb hE hB 6 (by decide) rfl (by decide) (by decide) dX2_init_94 (fun H locs hB => ?_)
  refine x_iinc (lv' := [(1, .int (xJ 7)), (0, .ref (h0 + 168))]) hx hb hl 0 rfl dX2_init_95 (by decide) rfl (fun ls hl => ?_)
  refine lv_goto (tgt := 82) hx hb dX2_init_98 (by decide) ?_
  refine x_iload_n hx hb hl 0 rfl dX2_init_82 rfl ?_
  refine x_bipush hx hb dX2_init_83 (by decide) ?_
  refine x_icmp_ge (tgt := 101) hx hb (by decide) (by decide) dX2_init_85 (by decide) (fun h9 => absurd h9 (by decide)) (fun _ => ?_)
  refine x_aload_n hx hb hl 1 rfl dX2_init_88 rfl ?_
  refine b_get (j := 3) (v := .ref (h0 + 168 + 6)) hx hb hown hT hE hB cls_X2 0 (by decide) rfl (by decide) rfl wq388 dX2_init_89 ?_
  refine x_iload_n hx hb hl 0 rfl dX2_init_92 rfl ?_
  refine x_iconst hx hb dX2_init_93 ?_
  refine b_iast hx hb hE hB 6 (by decide) rfl (by decide) (by decide) dX2_init_94 (fun H locs hB => ?_)
  refine x_iinc (lv' := [(1, .int (xJ 8)), (0, .ref (h0 + 168))]) hx hb hl 0 rfl dX2_init_95 (by decide) rfl (fun ls hl => ?_)
  refine lv_goto (tgt := 82) hx hb dX2_init_98 (by decide) ?_
  refine x_iload_n hx hb hl 0 rfl dX2_init_82 rfl ?_
  refine x_bipush hx hb dX2_init_83 (by decide) ?_
  refine x_icmp_ge (tgt := 101) hx hb (by decide) (by decide) dX2_init_85 (by decide) (fun h9 => absurd h9 (by decide)) (fun _ => ?_)
  refine x_aload_n hx hb hl 1 rfl dX2_init_88 rfl ?_
  refine b_get (j := 3) (v := .ref (h0 + 168 + 6)) hx hb hown hT hE hB cls_X2 0 (by decide) rfl (by decide) rfl wq388 dX2_init_89 ?_
  refine x_iload_n hx hb hl 0 rfl dX2_init_92 rfl ?_
  refine x_iconst hx hb dX2_init_93 ?_
  refine b_iast hx hb hE hB 6 (by decide) rfl (by decide) (by decide) dX2_init_94 (fun H locs hB => ?_)
  refine x_iinc (lv' := [(1, .int (xJ 9)), (0, .ref (h0 + 168))]) hx hb hl 0 rfl dX2_init_95 (by decide) rfl (fun ls hl => ?_)
  refine lv_goto (tgt := 82) hx hb dX2_init_98 (by decide) ?_
  refine x_iload_n hx hb hl 0 rfl dX2_init_82 rfl ?_
  refine x_bipush hx hb dX2_init_83 (by decide) ?_
  refine x_icmp_ge (tgt := 101) hx hb (by decide) (by decide) dX2_init_85 (by decide) (fun h9 => absurd h9 (by decide)) (fun _ => ?_)
  refine x_aload_n hx hb hl 1 rfl dX2_init_88 rfl ?_
  refine b_get (j := 3) (v := .ref (h0 + 168 + 6)) hx hb hown hT hE hB cls_X2 0 (by decide) rfl (by decide) rfl wq388 dX2_init_89 ?_
  refine x_iload_n hx hb hl 0 rfl dX2_init_92 rfl ?_
  refine x_iconst hx hb dX2_init_93 ?_
  refine b_iast hx hb hE hB 6 (by decide) rfl (by decide) (by decide) dX2_init_94 (fun H locs hB => ?_)
  refine x_iinc (lv' := [(1, .int (xJ 10)), (0, .ref (h0 + 168))]) hx hb hl 0 rfl dX2_init_95 (by decide) rfl (fun ls hl => ?_)
  refine lv_goto (tgt := 82) hx hb dX2_init_98 (by decide) ?_
  refine x_iload_n hx hb hl 0 rfl dX2_init_82 rfl ?_
  refine x_bipush hx hb dX2_init_83 (by decide) ?_
  refine x_icmp_ge (tgt := 101) hx hb (by decide) (by decide) dX2_init_85 (by decide) (fun _ => ?_) (fun h9 => absurd h9 (by decide))
  refine x_aload_n hx hb hl 1 rfl dX2_init_101 rfl ?_
  refine x_iconst hx hb dX2_init_102 ?_
  refine b_put (j := 7) hx hb hown hT hE hB cls_X2 0 (by decide) rfl (by decide) (Nat.le_of_ble_eq_true rfl) rfl wq401 rfl rfl rfl dX2_init_103 (fun H locs hB => ?_)
  refine x_aload_n hx hb hl 1 rfl dX2_init_106 rfl ?_
  refine x_iconst hx hb dX2_init_107 ?_
  refine b_put (j := 8) hx hb hown hT hE hB cls_X2 0 (by decide) rfl (by decide) (Nat.le_of_ble_eq_true rfl) rfl wq404 rfl rfl rfl dX2_init_108 (fun H locs hB => ?_)
  refine x_aload_n hx hb hl 1 rfl dX2_init_111 rfl ?_
  refine x_iconst hx hb dX2_init_112 ?_
  refine b_put (j := 9) hx hb hown hT hE hB cls_X2 0 (by decide) rfl (by decide) (Nat.le_of_ble_eq_true rfl) rfl wq406 rfl rfl rfl dX2_init_113 (fun H locs hB => ?_)
  refine x_aload_n hx hb hl 1 rfl dX2_init_116 rfl ?_
  refine x_iconst hx hb dX2_init_117 ?_
  refine b_put (j := 10) hx hb hown hT hE hB cls_X2 0 (by decide) rfl (by decide) (Nat.le_of_ble_eq_true rfl) rfl wq409 rfl rfl rfl dX2_init_118 (fun H locs hB => ?_)
  refine x_aload_n hx hb hl 1 rfl dX2_init_121 rfl ?_
  refine x_iconst hx hb dX2_init_122 ?_
  refine b_put (j := 11) hx hb hown hT hE hB cls_X2 0 (by decide) rfl (by decide) (Nat.le_of_ble_eq_true rfl) rfl wq412 rfl rfl rfl dX2_init_123 (fun H locs hB => ?_)
  have hB := bB_arr (k := 1) (f' := fun j => xJ (xI 169 j)) hB rfl (by decide +kernel)
  have hB := bB_arr (k := 6) (f' := fun j => xJ (xI 174 j)) hB rfl (by decide +kernel)
  subst eQ
  refine b_vret hx hb hr hlk hB ?_ rfl rfl dX2_init_126
  refine allS ?_ rfl
  refine allS ?_ rfl
  refine allS ?_ rfl
  refine allS ?_ rfl
  refine allS ?_ rfl
  refine allS ?_ rfl
  refine allS ?_ rfl
  refine allS ?_ rfl
  refine allS ?_ rfl
  refine allS ?_ rfl
  exact allZ
theorem b_X2_178 (l : Launch) (D : va_G) (g : xG) (T : Nat × Nat × Nat) (h0 : Nat) : Met l yX2_init (xws yX2_init cX2_init 2 none) { frames := 1, cells := 9, slots := 46, locals := 20 } (bP [.ref (h0 + 178)] D g T (h0 + 178) (.inr (2, fz_X2))) (bQ D (h0 + 178) 10 (fun k => xcel h0 g xI (178 + k))) 9 46 (xA (h0 + 178)) := by
  refine b_met (by decide) (Nat.le_of_ble_eq_true rfl) ?_
  intro p e s m args below meth c hx hb hr hml hown hT hlk hnm hE hO hB ls hl
  have hl : lv_has ls 2 [(0, .ref (h0 + 178))] := hl
  obtain ⟨Q, eQ⟩ : ∃ Q, Q = MQ below (bQ D (h0 + 178) 10 (fun k => xcel h0 g xI (178 + k))) args s 9 46 (xA (h0 + 178)) := ⟨_, rfl⟩
  rw [← eQ]
  generalize hHe : ([] : List Loc) = locs at hB ⊢
  obtain ⟨H, eH⟩ : ∃ H, H = s.heap := ⟨_, rfl⟩
  rw [← eH] at hB ⊢
  refine x_aload_n hx hb hl 0 rfl dX2_init_0 rfl ?_
  refine b_obj hx hb (hml.trans hl.1.symm) hown hT bo381 bo_inst bo_code (by decide) (Nat.le_of_ble_eq_true rfl) dX2_init_1 ?_
  refine x_aload_n hx hb hl 0 rfl dX2_init_4 rfl ?_
  refine x_iconst hx hb dX2_init_5 ?_
  refine b_newaI (N := 2) hx hb hT hE hB wq217 rfl (by decide) (by decide) (by decide) dX2_init_6 (fun H hB => ?_)
  have hB := bB_n (n1 := 2) rfl hB
  refine b_putF (j := 0) hx hb hown hT hE hB cls_X2 0 (by decide) rfl (by decide) (Nat.le_of_ble_eq_true rfl) rfl wq383 rfl hnm rfl rfl rfl dX2_init_8 (fun H locs hB => ?_)
  refine x_aload_n hx hb hl 0 rfl dX2_init_11 rfl ?_
  refine x_iconst hx hb dX2_init_12 ?_
  refine x_iconst hx hb dX2_init_13 ?_
  refine b_mna (N := 2) (K := 0) hx hb hown hT hE hB wq382 hO wq217 rfl rfl (by decide) (by decide) (by decide) dX2_init_14 (fun H hB => ?_)
  have hB := bB_n (n1 := 5) rfl hB
  have hB := bB_arq (k := 2) (f' := fun j => some (h0 + xrow xI 180 j)) hB rfl (by
      refine allS ?_ rfl
      refine allS ?_ rfl
      exact allZ)
  refine b_putF (j := 1) hx hb hown hT hE hB cls_X2 0 (by decide) rfl (by decide) (Nat.le_of_ble_eq_true rfl) rfl wq386 rfl hnm rfl rfl rfl dX2_init_18 (fun H locs hB => ?_)
  refine x_aload_n hx hb hl 0 rfl dX2_init_21 rfl ?_
  refine x_iconst hx hb dX2_init_22 ?_
  refine b_newaI (N := 2) hx hb hT hE hB wq217 rfl (by decide) (by decide) (by decide) dX2_init_23 (fun H hB => ?_)
  have hB := bB_n (n1 := 6) rfl hB
  refine b_putF (j := 2) hx hb hown hT hE hB cls_X2 0 (by decide) rfl (by decide) (Nat.le_of_ble_eq_true rfl) rfl wq387 rfl hnm rfl rfl rfl dX2_init_25 (fun H locs hB => ?_)
  refine x_aload_n hx hb hl 0 rfl dX2_init_28 rfl ?_
  refine x_bipush hx hb dX2_init_29 (by decide) ?_
  refine b_newaI (N := 10) hx hb hT hE hB wq217 rfl (by decide) (by decide) (by decide) dX2_init_31 (fun H hB => ?_)
  have hB := bB_n (n1 := 7) rfl hB
  refine b_putF (j := 3) hx hb hown hT hE hB cls_X2 0 (by decide) rfl (by decide) (Nat.le_of_ble_eq_true rfl) rfl wq388 rfl hnm rfl rfl rfl dX2_init_33 (fun H locs hB => ?_)
  refine x_aload_n hx hb hl 0 rfl dX2_init_36 rfl ?_
  refine x_bipush hx hb dX2_init_37 (by decide) ?_
  refine b_newaI (N := 10) hx hb hT hE hB wq217 rfl (by decide) (by decide) (by decide) dX2_init_39 (fun H hB => ?_)
  have hB := bB_n (n1 := 8) rfl hB
  refine b_putF (j := 4) hx hb hown hT hE hB cls_X2 0 (by decide) rfl (by decide) (Nat.le_of_ble_eq_true rfl) rfl wq392 rfl hnm rfl rfl rfl dX2_init_41 (fun H locs hB => ?_)
  refine x_aload_n hx hb hl 0 rfl dX2_init_44 rfl ?_
  refine x_bipush hx hb dX2_init_45 (by decide) ?_
  refine b_newaI (N := 10) hx hb hT hE hB wq217 rfl (by decide) (by decide) (by decide) dX2_init_47 (fun H hB => ?_)
  have hB := bB_n (n1 := 9) rfl hB
  refine b_putF (j := 5) hx hb hown hT hE hB cls_X2 0 (by decide) rfl (by decide) (Nat.le_of_ble_eq_true rfl) rfl wq395 rfl hnm rfl rfl rfl dX2_init_49 (fun H locs hB => ?_)
  refine x_aload_n hx hb hl 0 rfl dX2_init_52 rfl ?_
  refine x_bipush hx hb dX2_init_53 (by decide) ?_
  refine b_newaZ (N := 10) hx hb hT hE hB wq242 rfl (by decide) (by decide) (by decide) dX2_init_55 (fun H hB => ?_)
  have hB := bB_n (n1 := 10) rfl hB
  refine b_putF (j := 6) hx hb hown hT hE hB cls_X2 0 (by decide) rfl (by decide) (Nat.le_of_ble_eq_true rfl) rfl wq398 rfl hnm rfl rfl rfl dX2_init_57 (fun H locs hB => ?_)
  refine x_iconst hx hb dX2_init_60 ?_
  refine lv_istore_n (lv' := [(1, .int (xJ 0)), (0, .ref (h0 + 178))]) hx hb dX2_init_61 rfl hl (by decide) rfl (fun ls hl => ?_)
  refine x_iload_n hx hb hl 0 rfl dX2_init_62 rfl ?_
  refine x_iconst hx hb dX2_init_63 ?_
  refine x_icmp_ge (tgt := 80) hx hb (by decide) (by decide) dX2_init_64 (by decide) (fun h9 => absurd h9 (by decide)) (fun _ => ?_)
  refine x_aload_n hx hb hl 1 rfl dX2_init_67 rfl ?_
  refine b_get (j := 0) (v := .ref (h0 + 178 + 1)) hx hb hown hT hE hB cls_X2 0 (by decide) rfl (by decide) rfl wq383 dX2_init_68 ?_
  refine x_iload_n hx hb hl 0 rfl dX2_init_71 rfl ?_
  refine x_iconst hx hb dX2_init_72 ?_
  refine b_iast hx hb hE hB 1 (by decide) rfl (by decide) (by decide) dX2_init_73 (fun H locs hB => ?_)
  refine x_iinc (lv' := [(1, .int (xJ 1)), (0, .ref (h0 + 178))]) hx hb hl 0 rfl dX2_init_74 (by decide) rfl (fun ls hl => ?_)
  refine lv_goto (tgt := 62) hx hb dX2_init_77 (by decide) ?_
  refine x_iload_n hx hb hl 0 rfl dX2_init_62 rfl ?_
  refine x_iconst hx hb dX2_init_63 ?_
  refine x_icmp_ge (tgt := 80) hx hb (by decide) (by decide) dX2_init_64 (by decide) (fun h9 => absurd h9 (by decide)) (fun _ => ?_)
  refine x_aload_n hx hb hl 1 rfl dX2_init_67 rfl ?_
  refine b_get (j := 0) (v := .ref (h0 + 178 + 1)) hx hb hown hT hE hB cls_X2 0 (by decide) rfl (by decide) rfl wq383 dX2_init_68 ?_
  refine x_iload_n hx hb hl 0 rfl dX2_init_71 rfl ?_
  refine x_iconst hx hb dX2_init_72 ?_
  refine b_iast hx hb hE hB 1 (by decide) rfl (by decide) (by decide) dX2_init_73 (fun H locs hB => ?_)
  refine x_iinc (lv' := [(1, .int (xJ 2)), (0, .ref (h0 + 178))]) hx hb hl 0 rfl dX2_init_74 (by decide) rfl (fun ls hl => ?_)
  refine lv_goto (tgt := 62) hx hb dX2_init_77 (by decide) ?_
  refine x_iload_n hx hb hl 0 rfl dX2_init_62 rfl ?_
  refine x_iconst hx hb dX2_init_63 ?_
  refine x_icmp_ge (tgt := 80) hx hb (by decide) (by decide) dX2_init_64 (by decide) (fun _ => ?_) (fun h9 => absurd h9 (by decide))
  refine x_iconst hx hb dX2_init_80 ?_
  refine lv_istore_n (lv' := [(1, .int (xJ 0)), (0, .ref (h0 + 178))]) hx hb dX2_init_81 rfl hl (by decide) rfl (fun ls hl => ?_)
  refine x_iload_n hx hb hl 0 rfl dX2_init_82 rfl ?_
  refine x_bipush hx hb dX2_init_83 (by decide) ?_
  refine x_icmp_ge (tgt := 101) hx hb (by decide) (by decide) dX2_init_85 (by decide) (fun h9 => absurd h9 (by decide)) (fun _ => ?_)
  refine x_aload_n hx hb hl 1 rfl dX2_init_88 rfl ?_
  refine b_get (j := 3) (v := .ref (h0 + 178 + 6)) hx hb hown hT hE hB cls_X2 0 (by decide) rfl (by decide) rfl wq388 dX2_init_89 ?_
  refine x_iload_n hx hb hl 0 rfl dX2_init_92 rfl ?_
  refine x_iconst hx hb dX2_init_93 ?_
  refine b_iast hx hb hE hB 6 (by decide) rfl (by decide) (by decide) dX2_init_94 (fun H locs hB => ?_)
  refine x_iinc (lv' := [(1, .int (xJ 1)), (0, .ref (h0 + 178))]) hx hb hl 0 rfl dX2_init_95 (by decide) rfl (fun ls hl => ?_)
  refine lv_goto (tgt := 82) hx hb dX2_init_98 (by decide) ?_
  refine x_iload_n hx hb hl 0 rfl dX2_init_82 rfl ?_
  refine x_bipush hx hb dX2_init_83 (by decide) ?_
  refine x_icmp_ge (tgt := 101) hx hb (by decide) (by decide) dX2_init_85 (by decide) (fun h9 => absurd h9 (by decide)) (fun _ => ?_)
  refine x_aload_n hx hb hl 1 rfl dX2_init_88 rfl ?_
  refine b_get (j := 3) (v := .ref (h0 + 178 + 6)) hx hb hown hT hE hB cls_X2 0 (by decide) rfl (by decide) rfl wq388 dX2_init_89 ?_
  refine x_iload_n hx hb hl 0 rfl dX2_init_92 rfl ?_
  refine x_iconst hx hb dX2_init_93 ?_
  refine b_iast hx hb hE hB 6 (by decide) rfl (by decide) (by decide) dX2_init_94 (fun H locs hB => ?_)
  refine x_iinc (lv' := [(1, .int (xJ 2)), (0, .ref (h0 + 178))]) hx hb hl 0 rfl dX2_init_95 (by decide) rfl (fun ls hl => ?_)
  refine lv_goto (tgt := 82) hx hb dX2_init_98 (by decide) ?_
  refine x_iload_n hx hb hl 0 rfl dX2_init_82 rfl ?_
  refine x_bipush hx hb dX2_init_83 (by decide) ?_
  refine x_icmp_ge (tgt := 101) hx hb (by decide) (by decide) dX2_init_85 (by decide) (fun h9 => absurd h9 (by decide)) (fun _ => ?_)
  refine x_aload_n hx hb hl 1 rfl dX2_init_88 rfl ?_
  refine b_get (j := 3) (v := .ref (h0 + 178 + 6)) hx hb hown hT hE hB cls_X2 0 (by decide) rfl (by decide) rfl wq388 dX2_init_89 ?_
  refine x_iload_n hx hb hl 0 rfl dX2_init_92 rfl ?_
  refine x_iconst hx hb dX2_init_93 ?_
  refine b_iast hx hb hE hB 6 (by decide) rfl (by decide) (by decide) dX2_init_94 (fun H locs hB => ?_)
  refine x_iinc (lv' := [(1, .int (xJ 3)), (0, .ref (h0 + 178))]) hx hb hl 0 rfl dX2_init_95 (by decide) rfl (fun ls hl => ?_)
  refine lv_goto (tgt := 82) hx hb dX2_init_98 (by decide) ?_
  refine x_iload_n hx hb hl 0 rfl dX2_init_82 rfl ?_
  refine x_bipush hx hb dX2_init_83 (by decide) ?_
  refine x_icmp_ge (tgt := 101) hx hb (by decide) (by decide) dX2_init_85 (by decide) (fun h9 => absurd h9 (by decide)) (fun _ => ?_)
  refine x_aload_n hx hb hl 1 rfl dX2_init_88 rfl ?_
  refine b_get (j := 3) (v := .ref (h0 + 178 + 6)) hx hb hown hT hE hB cls_X2 0 (by decide) rfl (by decide) rfl wq388 dX2_init_89 ?_
  refine x_iload_n hx hb hl 0 rfl dX2_init_92 rfl ?_
  refine x_iconst hx hb dX2_init_93 ?_
  refine b_iast hx hb hE hB 6 (by decide) rfl (by decide) (by decide) dX2_init_94 (fun H locs hB => ?_)
  refine x_iinc (lv' := [(1, .int (xJ 4)), (0, .ref (h0 + 178))]) hx hb hl 0 rfl dX2_init_95 (by decide) rfl (fun ls hl => ?_)
  refine lv_goto (tgt := 82) hx hb dX2_init_98 (by decide) ?_
  refine x_iload_n hx hb hl 0 rfl dX2_init_82 rfl ?_
  refine x_bipush hx hb dX2_init_83 (by decide) ?_
  refine x_icmp_ge (tgt := 101) hx hb (by decide) (by decide) dX2_init_85 (by decide) (fun h9 => absurd h9 (by decide)) (fun _ => ?_)
  refine x_aload_n hx hb hl 1 rfl dX2_init_88 rfl ?_
  refine b_get (j := 3) (v := .ref (h0 + 178 + 6)) hx hb hown hT hE hB cls_X2 0 (by decide) rfl (by decide) rfl wq388 dX2_init_89 ?_
  refine x_iload_n hx hb hl 0 rfl dX2_init_92 rfl ?_
  refine x_iconst hx hb dX2_init_93 ?_
  refine b_iast hx hb hE hB 6 (by decide) rfl (by decide) (by decide) dX2_init_94 (fun H locs hB => ?_)
  refine x_iinc (lv' := [(1, .int (xJ 5)), (0, .ref (h0 + 178))]) hx hb hl 0 rfl dX2_init_95 (by decide) rfl (fun ls hl => ?_)
  refine lv_goto (tgt := 82) hx hb dX2_init_98 (by decide) ?_
  refine x_iload_n hx hb hl 0 rfl dX2_init_82 rfl ?_
  refine x_bipush hx hb dX2_init_83 (by decide) ?_
  refine x_icmp_ge (tgt := 101) hx hb (by decide) (by decide) dX2_init_85 (by decide) (fun h9 => absurd h9 (by decide)) (fun _ => ?_)
  refine x_aload_n hx hb hl 1 rfl dX2_init_88 rfl ?_
  refine b_get (j := 3) (v := .ref (h0 + 178 + 6)) hx hb hown hT hE hB cls_X2 0 (by decide) rfl (by decide) rfl wq388 dX2_init_89 ?_
  refine x_iload_n hx hb hl 0 rfl dX2_init_92 rfl ?_
  refine x_iconst hx hb dX2_init_93 ?_
  refine b_iast hx hb hE hB 6 (by decide) rfl (by decide) (by decide) dX2_init_94 (fun H locs hB => ?_)
  refine x_iinc (lv' := [(1, .int (xJ 6)), (0, .ref (h0 + 178))]) hx hb hl 0 rfl dX2_init_95 (by decide) rfl (fun ls hl => ?_)
  refine lv_goto (tgt := 82) hx hb dX2_init_98 (by decide) ?_
  refine x_iload_n hx hb hl 0 rfl dX2_init_82 rfl ?_
  refine x_bipush hx hb dX2_init_83 (by decide) ?_
  refine x_icmp_ge (tgt := 101) hx hb (by decide) (by decide) dX2_init_85 (by decide) (fun h9 => absurd h9 (by decide)) (fun _ => ?_)
  refine x_aload_n hx hb hl 1 rfl dX2_init_88 rfl ?_
  refine b_get (j := 3) (v := .ref (h0 + 178 + 6)) hx hb hown hT hE hB cls_X2 0 (by decide) rfl (by decide) rfl wq388 dX2_init_89 ?_
  refine x_iload_n hx hb hl 0 rfl dX2_init_92 rfl ?_
  refine x_iconst hx hb dX2_init_93 ?_
  refine b_iast hx hb hE hB 6 (by decide) rfl (by decide) (by decide) dX2_init_94 (fun H locs hB => ?_)
  refine x_iinc (lv' := [(1, .int (xJ 7)), (0, .ref (h0 + 178))]) hx hb hl 0 rfl dX2_init_95 (by decide) rfl (fun ls hl => ?_)
  refine lv_goto (tgt := 82) hx hb dX2_init_98 (by decide) ?_
  refine x_iload_n hx hb hl 0 rfl dX2_init_82 rfl ?_
  refine x_bipush hx hb dX2_init_83 (by decide) ?_
  refine x_icmp_ge (tgt := 101) hx hb (by decide) (by decide) dX2_init_85 (by decide) (fun h9 => absurd h9 (by decide)) (fun _ => ?_)
  refine x_aload_n hx hb hl 1 rfl dX2_init_88 rfl ?_
  refine b_get (j := 3) (v := .ref (h0 + 178 + 6)) hx hb hown hT hE hB cls_X2 0 (by decide) rfl (by decide) rfl wq388 dX2_init_89 ?_
  refine x_iload_n hx hb hl 0 rfl dX2_init_92 rfl ?_
  refine x_iconst hx hb dX2_init_93 ?_
  refine b_iast hx hb hE hB 6 (by decide) rfl (by decide) (by decide) dX2_init_94 (fun H locs hB => ?_)
  refine x_iinc (lv' := [(1, .int (xJ 8)), (0, .ref (h0 + 178))]) hx hb hl 0 rfl dX2_init_95 (by decide) rfl (fun ls hl => ?_)
  refine lv_goto (tgt := 82) hx hb dX2_init_98 (by decide) ?_
  refine x_iload_n hx hb hl 0 rfl dX2_init_82 rfl ?_
  refine x_bipush hx hb dX2_init_83 (by decide) ?_
  refine x_icmp_ge (tgt := 101) hx hb (by decide) (by decide) dX2_init_85 (by decide) (fun h9 => absurd h9 (by decide)) (fun _ => ?_)
  refine x_aload_n hx hb hl 1 rfl dX2_init_88 rfl ?_
  refine b_get (j := 3) (v := .ref (h0 + 178 + 6)) hx hb hown hT hE hB cls_X2 0 (by decide) rfl (by decide) rfl wq388 dX2_init_89 ?_
  refine x_iload_n hx hb hl 0 rfl dX2_init_92 rfl ?_
  refine x_iconst hx hb dX2_init_93 ?_
  refine b_iast hx hb hE hB 6 (by decide) rfl (by decide) (by decide) dX2_init_94 (fun H locs hB => ?_)
  refine x_iinc (lv' := [(1, .int (xJ 9)), (0, .ref (h0 + 178))]) hx hb hl 0 rfl dX2_init_95 (by decide) rfl (fun ls hl => ?_)
  refine lv_goto (tgt := 82) hx hb dX2_init_98 (by decide) ?_
  refine x_iload_n hx hb hl 0 rfl dX2_init_82 rfl ?_
  refine x_bipush hx hb dX2_init_83 (by decide) ?_
  refine x_icmp_ge (tgt := 101) hx hb (by decide) (by decide) dX2_init_85 (by decide) (fun h9 => absurd h9 (by decide)) (fun _ => ?_)
  refine x_aload_n hx hb hl 1 rfl dX2_init_88 rfl ?_
  refine b_get (j := 3) (v := .ref (h0 + 178 + 6)) hx hb hown hT hE hB cls_X2 0 (by decide) rfl (by decide) rfl wq388 dX2_init_89 ?_
  refine x_iload_n hx hb hl 0 rfl dX2_init_92 rfl ?_
  refine x_iconst hx hb dX2_init_93 ?_
  refine b_iast hx hb hE hB 6 (by decide) rfl (by decide) (by decide) dX2_init_94 (fun H locs hB => ?_)
  refine x_iinc (lv' := [(1, .int (xJ 10)), (0, .ref (h0 + 178))]) hx hb hl 0 rfl dX2_init_95 (by decide) rfl (fun ls hl => ?_)
  refine lv_goto (tgt := 82) hx hb dX2_init_98 (by decide) ?_
  refine x_iload_n hx hb hl 0 rfl dX2_init_82 rfl ?_
  refine x_bipush hx hb dX2_init_83 (by decide) ?_
  refine x_icmp_ge (tgt := 101) hx hb (by decide) (by decide) dX2_init_85 (by decide) (fun _ => ?_) (fun h9 => absurd h9 (by decide))
  refine x_aload_n hx hb hl 1 rfl dX2_init_101 rfl ?_
  refine x_iconst hx hb dX2_init_102 ?_
  refine b_put (j := 7) hx hb hown hT hE hB cls_X2 0 (by decide) rfl (by decide) (Nat.le_of_ble_eq_true rfl) rfl wq401 rfl rfl rfl dX2_init_103 (fun H locs hB => ?_)
  refine x_aload_n hx hb hl 1 rfl dX2_init_106 rfl ?_
  refine x_iconst hx hb dX2_init_107 ?_
  refine b_put (j := 8) hx hb hown hT hE hB cls_X2 0 (by decide) rfl (by decide) (Nat.le_of_ble_eq_true rfl) rfl wq404 rfl rfl rfl dX2_init_108 (fun H locs hB => ?_)
  refine x_aload_n hx hb hl 1 rfl dX2_init_111 rfl ?_
  refine x_iconst hx hb dX2_init_112 ?_
  refine b_put (j := 9) hx hb hown hT hE hB cls_X2 0 (by decide) rfl (by decide) (Nat.le_of_ble_eq_true rfl) rfl wq406 rfl rfl rfl dX2_init_113 (fun H locs hB => ?_)
  refine x_aload_n hx hb hl 1 rfl dX2_init_116 rfl ?_
  refine x_iconst hx hb dX2_init_117 ?_
  refine b_put (j := 10) hx hb hown hT hE hB cls_X2 0 (by decide) rfl (by decide) (Nat.le_of_ble_eq_true rfl) rfl wq409 rfl rfl rfl dX2_init_118 (fun H locs hB => ?_)
  refine x_aload_n hx hb hl 1 rfl dX2_init_121 rfl ?_
  refine x_iconst hx hb dX2_init_122 ?_
  refine b_put (j := 11) hx hb hown hT hE hB cls_X2 0 (by decide) rfl (by decide) (Nat.le_of_ble_eq_true rfl) rfl wq412 rfl rfl rfl dX2_init_123 (fun H locs hB => ?_)
  have hB := bB_arr (k := 1) (f' := fun j => xJ (xI 179 j)) hB rfl (by decide +kernel)
  have hB := bB_arr (k := 6) (f' := fun j => xJ (xI 184 j)) hB rfl (by decide +kernel)
  subst eQ
  refine b_vret hx hb hr hlk hB ?_ rfl rfl dX2_init_126
  refine allS ?_ rfl
  refine allS ?_ rfl
  refine allS ?_ rfl
  refine allS ?_ rfl
  refine allS ?_ rfl
  refine allS ?_ rfl
  refine allS ?_ rfl
  refine allS ?_ rfl
  refine allS ?_ rfl
  refine allS ?_ rfl
  exact allZ
theorem b_X2_188 (l : Launch) (D : va_G) (g : xG) (T : Nat × Nat × Nat) (h0 : Nat) : Met l yX2_init (xws yX2_init cX2_init 2 none) { frames := 1, cells := 9, slots := 46, locals := 20 } (bP [.ref (h0 + 188)] D g T (h0 + 188) (.inr (2, fz_X2))) (bQ D (h0 + 188) 10 (fun k => xcel h0 g xI (188 + k))) 9 46 (xA (h0 + 188)) := by
  refine b_met (by decide) (Nat.le_of_ble_eq_true rfl) ?_
  intro p e s m args below meth c hx hb hr hml hown hT hlk hnm hE hO hB ls hl
  have hl : lv_has ls 2 [(0, .ref (h0 + 188))] := hl
  obtain ⟨Q, eQ⟩ : ∃ Q, Q = MQ below (bQ D (h0 + 188) 10 (fun k => xcel h0 g xI (188 + k))) args s 9 46 (xA (h0 + 188)) := ⟨_, rfl⟩
  rw [← eQ]
  generalize hHe : ([] : List Loc) = locs at hB ⊢
  obtain ⟨H, eH⟩ : ∃ H, H = s.heap := ⟨_, rfl⟩
  rw [← eH] at hB ⊢
  refine x_aload_n hx hb hl 0 rfl dX2_init_0 rfl ?_
  refine b_obj hx hb (hml.trans hl.1.symm) hown hT bo381 bo_inst bo_code (by decide) (Nat.le_of_ble_eq_true rfl) dX2_init_1 ?_
  refine x_aload_n hx hb hl 0 rfl dX2_init_4 rfl ?_
  refine x_iconst hx hb dX2_init_5 ?_
  refine b_newaI (N := 2) hx hb hT hE hB wq217 rfl (by decide) (by decide) (by decide) dX2_init_6 (fun H hB => ?_)
  have hB := bB_n (n1 := 2) rfl hB
  refine b_putF (j := 0) hx hb hown hT hE hB cls_X2 0 (by decide) rfl (by decide) (Nat.le_of_ble_eq_true rfl) rfl wq383 rfl hnm rfl rfl rfl dX2_init_8 (fun H locs hB => ?_)
  refine x_aload_n hx hb hl 0 rfl dX2_init_11 rfl ?_
  refine x_iconst hx hb dX2_init_12 ?_
  refine x_iconst hx hb dX2_init_13 ?_
  refine b_mna (N := 2) (K := 0) hx hb hown hT hE hB wq382 hO wq217 rfl rfl (by decide) (by decide) (by decide) dX2_init_14 (fun H hB => ?_)
  have hB := bB_n (n1 := 5) rfl hB
  have hB := bB_arq (k := 2) (f' := fun j => some (h0 + xrow xI 190 j)) hB rfl (by
      refine allS ?_ rfl
      refine allS ?_ rfl
      exact allZ)
  refine b_putF (j := 1) hx hb hown hT hE hB cls_X2 0 (by decide) rfl (by decide) (Nat.le_of_ble_eq_true rfl) rfl wq386 rfl hnm rfl rfl rfl dX2_init_18 (fun H locs hB => ?_)
  refine x_aload_n hx hb hl 0 rfl dX2_init_21 rfl ?_
  refine x_iconst hx hb dX2_init_22 ?_
  refine b_newaI (N := 2) hx hb hT hE hB wq217 rfl (by decide) (by decide) (by decide) dX2_init_23 (fun H hB => ?_)
  have hB := bB_n (n1 := 6) rfl hB
  refine b_putF (j := 2) hx hb hown hT hE hB cls_X2 0 (by decide) rfl (by decide) (Nat.le_of_ble_eq_true rfl) rfl wq387 rfl hnm rfl rfl rfl dX2_init_25 (fun H locs hB => ?_)
  refine x_aload_n hx hb hl 0 rfl dX2_init_28 rfl ?_
  refine x_bipush hx hb dX2_init_29 (by decide) ?_
  refine b_newaI (N := 10) hx hb hT hE hB wq217 rfl (by decide) (by decide) (by decide) dX2_init_31 (fun H hB => ?_)
  have hB := bB_n (n1 := 7) rfl hB
  refine b_putF (j := 3) hx hb hown hT hE hB cls_X2 0 (by decide) rfl (by decide) (Nat.le_of_ble_eq_true rfl) rfl wq388 rfl hnm rfl rfl rfl dX2_init_33 (fun H locs hB => ?_)
  refine x_aload_n hx hb hl 0 rfl dX2_init_36 rfl ?_
  refine x_bipush hx hb dX2_init_37 (by decide) ?_
  refine b_newaI (N := 10) hx hb hT hE hB wq217 rfl (by decide) (by decide) (by decide) dX2_init_39 (fun H hB => ?_)
  have hB := bB_n (n1 := 8) rfl hB
  refine b_putF (j := 4) hx hb hown hT hE hB cls_X2 0 (by decide) rfl (by decide) (Nat.le_of_ble_eq_true rfl) rfl wq392 rfl hnm rfl rfl rfl dX2_init_41 (fun H locs hB => ?_)
  refine x_aload_n hx hb hl 0 rfl dX2_init_44 rfl ?_
  refine x_bipush hx hb dX2_init_45 (by decide) ?_
  refine b_newaI (N := 10) hx hb hT hE hB wq217 rfl (by decide) (by decide) (by decide) dX2_init_47 (fun H hB => ?_)
  have hB := bB_n (n1 := 9) rfl hB
  refine b_putF (j := 5) hx hb hown hT hE hB cls_X2 0 (by decide) rfl (by decide) (Nat.le_of_ble_eq_true rfl) rfl wq395 rfl hnm rfl rfl rfl dX2_init_49 (fun H locs hB => ?_)
  refine x_aload_n hx hb hl 0 rfl dX2_init_52 rfl ?_
  refine x_bipush hx hb dX2_init_53 (by decide) ?_
  refine b_newaZ (N := 10) hx hb hT hE hB wq242 rfl (by decide) (by decide) (by decide) dX2_init_55 (fun H hB => ?_)
  have hB := bB_n (n1 := 10) rfl hB
  refine b_putF (j := 6) hx hb hown hT hE hB cls_X2 0 (by decide) rfl (by decide) (Nat.le_of_ble_eq_true rfl) rfl wq398 rfl hnm rfl rfl rfl dX2_init_57 (fun H locs hB => ?_)
  refine x_iconst hx hb dX2_init_60 ?_
  refine lv_istore_n (lv' := [(1, .int (xJ 0)), (0, .ref (h0 + 188))]) hx hb dX2_init_61 rfl hl (by decide) rfl (fun ls hl => ?_)
  refine x_iload_n hx hb hl 0 rfl dX2_init_62 rfl ?_
  refine x_iconst hx hb dX2_init_63 ?_
  refine x_icmp_ge (tgt := 80) hx hb (by decide) (by decide) dX2_init_64 (by decide) (fun h9 => absurd h9 (by decide)) (fun _ => ?_)
  refine x_aload_n hx hb hl 1 rfl dX2_init_67 rfl ?_
  refine b_get (j := 0) (v := .ref (h0 + 188 + 1)) hx hb hown hT hE hB cls_X2 0 (by decide) rfl (by decide) rfl wq383 dX2_init_68 ?_
  refine x_iload_n hx hb hl 0 rfl dX2_init_71 rfl ?_
  refine x_iconst hx hb dX2_init_72 ?_
  refine b_iast hx hb hE hB 1 (by decide) rfl (by decide) (by decide) dX2_init_73 (fun H locs hB => ?_)
  refine x_iinc (lv' := [(1, .int (xJ 1)), (0, .ref (h0 + 188))]) hx hb hl 0 rfl dX2_init_74 (by decide) rfl (fun ls hl => ?_)
  refine lv_goto (tgt := 62) hx hb dX2_init_77 (by decide) ?_
  refine x_iload_n hx hb hl 0 rfl dX2_init_62 rfl ?_
  refine x_iconst hx hb dX2_init_63 ?_
  refine x_icmp_ge (tgt := 80) hx hb (by decide) (by decide) dX2_init_64 (by decide) (fun h9 => absurd h9 (by decide)) (fun _ => ?_)
  refine x_aload_n hx hb hl 1 rfl dX2_init_67 rfl ?_
  refine b_get (j := 0) (v := .ref (h0 + 188 + 1)) hx hb hown hT hE hB cls_X2 0 (by decide) rfl (by decide) rfl wq383 dX2_init_68 ?_
  refine x_iload_n hx hb hl 0 rfl dX2_init_71 rfl ?_
  refine x_iconst hx hb dX2_init_72 ?_
  refine b_iast hx hb hE hB 1 (by decide) rfl (by decide) (by decide) dX2_init_73 (fun H locs hB => ?_)
  refine x_iinc (lv' := [(1, .int (xJ 2)), (0, .ref (h0 + 188))]) hx hb hl 0 rfl dX2_init_74 (by decide) rfl (fun ls hl => ?_)
  refine lv_goto (tgt := 62) hx hb dX2_init_77 (by decide) ?_
  refine x_iload_n hx hb hl 0 rfl dX2_init_62 rfl ?_
  refine x_iconst hx hb dX2_init_63 ?_
  refine x_icmp_ge (tgt := 80) hx hb (by decide) (by decide) dX2_init_64 (by decide) (fun _ => ?_) (fun h9 => absurd h9 (by decide))
  refine x_iconst hx hb dX2_init_80 ?_
  refine lv_istore_n (lv' := [(1, .int (xJ 0)), (0, .ref (h0 + 188))]) hx hb dX2_init_81 rfl hl (by decide) rfl (fun ls hl => ?_)
  refine x_iload_n hx hb hl 0 rfl dX2_init_82 rfl ?_
  refine x_bipush hx hb dX2_init_83 (by decide) ?_
  refine x_icmp_ge (tgt := 101) hx hb (by decide) (by decide) dX2_init_85 (by decide) (fun h9 => absurd h9 (by decide)) (fun _ => ?_)
  refine x_aload_n hx hb hl 1 rfl dX2_init_88 rfl ?_
  refine b_get (j := 3) (v := .ref (h0 + 188 + 6)) hx hb hown hT hE hB cls_X2 0 (by decide) rfl (by decide) rfl wq388 dX2_init_89 ?_
  refine x_iload_n hx hb hl 0 rfl dX2_init_92 rfl ?_
  refine x_iconst hx hb dX2_init_93 ?_
  refine b_iast hx hb hE hB 6 (by decide) rfl (by decide) (by decide) dX2_init_94 (fun H locs hB => ?_)
  refine x_iinc (lv' := [(1, .int (xJ 1)), (0, .ref (h0 + 188))]) hx hb hl 0 rfl dX2_init_95 (by decide) rfl (fun ls hl => ?_)
  refine lv_goto (tgt := 82) hx hb dX2_init_98 (by decide) ?_
  refine x_iload_n hx hb hl 0 rfl dX2_init_82 rfl ?_
  refine x_bipush hx hb dX2_init_83 (by decide) ?_
  refine x_icmp_ge (tgt := 101) hx hb (by decide) (by decide) dX2_init_85 (by decide) (fun h9 => absurd h9 (by decide)) (fun _ => ?_)
  refine x_aload_n hx hb hl 1 rfl dX2_init_88 rfl ?_
  refine b_get (j := 3) (v := .ref (h0 + 188 + 6)) hx hb hown hT hE hB cls_X2 0 (by decide) rfl (by decide) rfl wq388 dX2_init_89 ?_
  refine x_iload_n hx hb hl 0 rfl dX2_init_92 rfl ?_
  refine x_iconst hx hb dX2_init_93 ?_
  refine b_iast hx hb hE hB 6 (by decide) rfl (by decide) (by decide) dX2_init_94 (fun H locs hB => ?_)
  refine x_iinc (lv' := [(1, .int (xJ 2)), (0, .ref (h0 + 188))]) hx hb hl 0 rfl dX2_init_95 (by decide) rfl (fun ls hl => ?_)
  refine lv_goto (tgt := 82) hx hb dX2_init_98 (by decide) ?_
  refine x_iload_n hx hb hl 0 rfl dX2_init_82 rfl ?_
  refine x_bipush hx hb dX2_init_83 (by decide) ?_
  refine x_icmp_ge (tgt := 101) hx hb (by decide) (by decide) dX2_init_85 (by decide) (fun h9 => absurd h9 (by decide)) (fun _ => ?_)
  refine x_aload_n hx hb hl 1 rfl dX2_init_88 rfl ?_
  refine b_get (j := 3) (v := .ref (h0 + 188 + 6)) hx hb hown hT hE hB cls_X2 0 (by decide) rfl (by decide) rfl wq388 dX2_init_89 ?_
  refine x_iload_n hx hb hl 0 rfl dX2_init_92 rfl ?_
  refine x_iconst hx hb dX2_init_93 ?_
  refine b_iast hx hb hE hB 6 (by decide) rfl (by decide) (by decide) dX2_init_94 (fun H locs hB => ?_)
  refine x_iinc (lv' := [(1, .int (xJ 3)), (0, .ref (h0 + 188))]) hx hb hl 0 rfl dX2_init_95 (by decide) rfl (fun ls hl => ?_)
  refine lv_goto (tgt := 82) hx hb dX2_init_98 (by decide) ?_
  refine x_iload_n hx hb hl 0 rfl dX2_init_82 rfl ?_
  refine x_bipush hx hb dX2_init_83 (by decide) ?_
  refine x_icmp_ge (tgt := 101) hx hb (by decide) (by decide) dX2_init_85 (by decide) (fun h9 => absurd h9 (by decide)) (fun _ => ?_)
  refine x_aload_n hx hb hl 1 rfl dX2_init_88 rfl ?_
  refine b_get (j := 3) (v := .ref (h0 + 188 + 6)) hx hb hown hT hE hB cls_X2 0 (by decide) rfl (by decide) rfl wq388 dX2_init_89 ?_
  refine x_iload_n hx hb hl 0 rfl dX2_init_92 rfl ?_
  refine x_iconst hx hb dX2_init_93 ?_
  refine b_iast hx hb hE hB 6 (by decide) rfl (by decide) (by decide) dX2_init_94 (fun H locs hB => ?_)
  refine x_iinc (lv' := [(1, .int (xJ 4)), (0, .ref (h0 + 188))]) hx hb hl 0 rfl dX2_init_95 (by decide) rfl (fun ls hl => ?_)
  refine lv_goto (tgt := 82) hx hb dX2_init_98 (by decide) ?_
  refine x_iload_n hx hb hl 0 rfl dX2_init_82 rfl ?_
  refine x_bipush hx hb dX2_init_83 (by decide) ?_
  refine x_icmp_ge (tgt := 101) hx hb (by decide) (by decide) dX2_init_85 (by decide) (fun h9 => absurd h9 (by decide)) (fun _ => ?_)
  refine x_aload_n hx hb hl 1 rfl dX2_init_88 rfl ?_
  refine b_get (j := 3) (v := .ref (h0 + 188 + 6)) hx hb hown hT hE hB cls_X2 0 (by decide) rfl (by decide) rfl wq388 dX2_init_89 ?_
  refine x_iload_n hx hb hl 0 rfl dX2_init_92 rfl ?_
  refine x_iconst hx hb dX2_init_93 ?_
  refine b_iast hx hb hE hB 6 (by decide) rfl (by decide) (by decide) dX2_init_94 (fun H locs hB => ?_)
  refine x_iinc (lv' := [(1, .int (xJ 5)), (0, .ref (h0 + 188))]) hx hb hl 0 rfl dX2_init_95 (by decide) rfl (fun ls hl => ?_)
  refine lv_goto (tgt := 82) hx hb dX2_init_98 (by decide) ?_
  refine x_iload_n hx hb hl 0 rfl dX2_init_82 rfl ?_
  refine x_bipush hx hb dX2_init_83 (by decide) ?_
  refine x_icmp_ge (tgt := 101) hx hb (by decide) (by decide) dX2_init_85 (by decide) (fun h9 => absurd h9 (by decide)) (fun _ => ?_)
  refine x_aload_n hx hb hl 1 rfl dX2_init_88 rfl ?_
  refine b_get (j := 3) (v := .ref (h0 + 188 + 6)) hx hb hown hT hE hB cls_X2 0 (by decide) rfl (by decide) rfl wq388 dX2_init_89 ?_
  refine x_iload_n hx hb hl 0 rfl dX2_init_92 rfl ?_
  refine x_iconst hx hb dX2_init_93 ?_
  refine b_iast hx hb hE hB 6 (by decide) rfl (by decide) (by decide) dX2_init_94 (fun H locs hB => ?_)
  refine x_iinc (lv' := [(1, .int (xJ 6)), (0, .ref (h0 + 188))]) hx hb hl 0 rfl dX2_init_95 (by decide) rfl (fun ls hl => ?_)
  refine lv_goto (tgt := 82) hx hb dX2_init_98 (by decide) ?_
  refine x_iload_n hx hb hl 0 rfl dX2_init_82 rfl ?_
  refine x_bipush hx hb dX2_init_83 (by decide) ?_
  refine x_icmp_ge (tgt := 101) hx hb (by decide) (by decide) dX2_init_85 (by decide) (fun h9 => absurd h9 (by decide)) (fun _ => ?_)
  refine x_aload_n hx hb hl 1 rfl dX2_init_88 rfl ?_
  refine b_get (j := 3) (v := .ref (h0 + 188 + 6)) hx hb hown hT hE hB cls_X2 0 (by decide) rfl (by decide) rfl wq388 dX2_init_89 ?_
  refine x_iload_n hx hb hl 0 rfl dX2_init_92 rfl ?_
  refine x_iconst hx hb dX2_init_93 ?_
  refine b_iast hx hb hE hB 6 (by decide) rfl (by decide) (by decide) dX2_init_94 (fun H locs hB => ?_)
  refine x_iinc (lv' := [(1, .int (xJ 7)), (0, .ref (h0 + 188))]) hx hb hl 0 rfl dX2_init_95 (by decide) rfl (fun ls hl => ?_)
  refine lv_goto (tgt := 82) hx hb dX2_init_98 (by decide) ?_
  refine x_iload_n hx hb hl 0 rfl dX2_init_82 rfl ?_
  refine x_bipush hx hb dX2_init_83 (by decide) ?_
  refine x_icmp_ge (tgt := 101) hx hb (by decide) (by decide) dX2_init_85 (by decide) (fun h9 => absurd h9 (by decide)) (fun _ => ?_)
  refine x_aload_n hx hb hl 1 rfl dX2_init_88 rfl ?_
  refine b_get (j := 3) (v := .ref (h0 + 188 + 6)) hx hb hown hT hE hB cls_X2 0 (by decide) rfl (by decide) rfl wq388 dX2_init_89 ?_
  refine x_iload_n hx hb hl 0 rfl dX2_init_92 rfl ?_
  refine x_iconst hx hb dX2_init_93 ?_
  refine b_iast hx hb hE hB 6 (by decide) rfl (by decide) (by decide) dX2_init_94 (fun H locs hB => ?_)
  refine x_iinc (lv' := [(1, .int (xJ 8)), (0, .ref (h0 + 188))]) hx hb hl 0 rfl dX2_init_95 (by decide) rfl (fun ls hl => ?_)
  refine lv_goto (tgt := 82) hx hb dX2_init_98 (by decide) ?_
  refine x_iload_n hx hb hl 0 rfl dX2_init_82 rfl ?_
  refine x_bipush hx hb dX2_init_83 (by decide) ?_
  refine x_icmp_ge (tgt := 101) hx hb (by decide) (by decide) dX2_init_85 (by decide) (fun h9 => absurd h9 (by decide)) (fun _ => ?_)
  refine x_aload_n hx hb hl 1 rfl dX2_init_88 rfl ?_
  refine b_get (j := 3) (v := .ref (h0 + 188 + 6)) hx hb hown hT hE hB cls_X2 0 (by decide) rfl (by decide) rfl wq388 dX2_init_89 ?_
  refine x_iload_n hx hb hl 0 rfl dX2_init_92 rfl ?_
  refine x_iconst hx hb dX2_init_93 ?_
  refine b_iast hx hb hE hB 6 (by decide) rfl (by decide) (by decide) dX2_init_94 (fun H locs hB => ?_)
  refine x_iinc (lv' := [(1, .int (xJ 9)), (0, .ref (h0 + 188))]) hx hb hl 0 rfl dX2_init_95 (by decide) rfl (fun ls hl => ?_)
  refine lv_goto (tgt := 82) hx hb dX2_init_98 (by decide) ?_
  refine x_iload_n hx hb hl 0 rfl dX2_init_82 rfl ?_
  refine x_bipush hx hb dX2_init_83 (by decide) ?_
  refine x_icmp_ge (tgt := 101) hx hb (by decide) (by decide) dX2_init_85 (by decide) (fun h9 => absurd h9 (by decide)) (fun _ => ?_)
  refine x_aload_n hx hb hl 1 rfl dX2_init_88 rfl ?_
  refine b_get (j := 3) (v := .ref (h0 + 188 + 6)) hx hb hown hT hE hB cls_X2 0 (by decide) rfl (by decide) rfl wq388 dX2_init_89 ?_
  refine x_iload_n hx hb hl 0 rfl dX2_init_92 rfl ?_
  refine x_iconst hx hb dX2_init_93 ?_
  refine b_iast hx hb hE hB 6 (by decide) rfl (by decide) (by decide) dX2_init_94 (fun H locs hB => ?_)
  refine x_iinc (lv' := [(1, .int (xJ 10)), (0, .ref (h0 + 188))]) hx hb hl 0 rfl dX2_init_95 (by decide) rfl (fun ls hl => ?_)
  refine lv_goto (tgt := 82) hx hb dX2_init_98 (by decide) ?_
  refine x_iload_n hx hb hl 0 rfl dX2_init_82 rfl ?_
  refine x_bipush hx hb dX2_init_83 (by decide) ?_
  refine x_icmp_ge (tgt := 101) hx hb (by decide) (by decide) dX2_init_85 (by decide) (fun _ => ?_) (fun h9 => absurd h9 (by decide))
  refine x_aload_n hx hb hl 1 rfl dX2_init_101 rfl ?_
  refine x_iconst hx hb dX2_init_102 ?_
  refine b_put (j := 7) hx hb hown hT hE hB cls_X2 0 (by decide) rfl (by decide) (Nat.le_of_ble_eq_true rfl) rfl wq401 rfl rfl rfl dX2_init_103 (fun H locs hB => ?_)
  refine x_aload_n hx hb hl 1 rfl dX2_init_106 rfl ?_
  refine x_iconst hx hb dX2_init_107 ?_
  refine b_put (j := 8) hx hb hown hT hE hB cls_X2 0 (by decide) rfl (by decide) (Nat.le_of_ble_eq_true rfl) rfl wq404 rfl rfl rfl dX2_init_108 (fun H locs hB => ?_)
  refine x_aload_n hx hb hl 1 rfl dX2_init_111 rfl ?_
  refine x_iconst hx hb dX2_init_112 ?_
  refine b_put (j := 9) hx hb hown hT hE hB cls_X2 0 (by decide) rfl (by decide) (Nat.le_of_ble_eq_true rfl) rfl wq406 rfl rfl rfl dX2_init_113 (fun H locs hB => ?_)
  refine x_aload_n hx hb hl 1 rfl dX2_init_116 rfl ?_
  refine x_iconst hx hb dX2_init_117 ?_
  refine b_put (j := 10) hx hb hown hT hE hB cls_X2 0 (by decide) rfl (by decide) (Nat.le_of_ble_eq_true rfl) rfl wq409 rfl rfl rfl dX2_init_118 (fun H locs hB => ?_)
  refine x_aload_n hx hb hl 1 rfl dX2_init_121 rfl ?_
  refine x_iconst hx hb dX2_init_122 ?_
  refine b_put (j := 11) hx hb hown hT hE hB cls_X2 0 (by decide) rfl (by decide) (Nat.le_of_ble_eq_true rfl) rfl wq412 rfl rfl rfl dX2_init_123 (fun H locs hB => ?_)
  have hB := bB_arr (k := 1) (f' := fun j => xJ (xI 189 j)) hB rfl (by decide +kernel)
  have hB := bB_arr (k := 6) (f' := fun j => xJ (xI 194 j)) hB rfl (by decide +kernel)
  subst eQ
  refine b_vret hx hb hr hlk hB ?_ rfl rfl dX2_init_126
  refine allS ?_ rfl
  refine allS ?_ rfl
  refine allS ?_ rfl
  refine allS ?_ rfl
  refine allS ?_ rfl
  refine allS ?_ rfl
  refine allS ?_ rfl
  refine allS ?_ rfl
  refine allS ?_ rfl
  refine allS ?_ rfl
  exact allZ
theorem b_X2_198 (l : Launch) (D : va_G) (g : xG) (T : Nat × Nat × Nat) (h0 : Nat) : Met l yX2_init (xws yX2_init cX2_init 2 none) { frames := 1, cells := 9, slots := 46, locals := 20 } (bP [.ref (h0 + 198)] D g T (h0 + 198) (.inr (2, fz_X2))) (bQ D (h0 + 198) 10 (fun k => xcel h0 g xI (198 + k))) 9 46 (xA (h0 + 198)) := by
  refine b_met (by decide) (Nat.le_of_ble_eq_true rfl) ?_
  intro p e s m args below meth c hx hb hr hml hown hT hlk hnm hE hO hB ls hl
  have hl : lv_has ls 2 [(0, .ref (h0 + 198))] := hl
  obtain ⟨Q, eQ⟩ : ∃ Q, Q = MQ below (bQ D (h0 + 198) 10 (fun k => xcel h0 g xI (198 + k))) args s 9 46 (xA (h0 + 198)) := ⟨_, rfl⟩
  rw [← eQ]
  generalize hHe : ([] : List Loc) = locs at hB ⊢
  obtain ⟨H, eH⟩ : ∃ H, H = s.heap := ⟨_, rfl⟩
  rw [← eH] at hB ⊢
  refine x_aload_n hx hb hl 0 rfl dX2_init_0 rfl ?_
  refine b_obj hx hb (hml.trans hl.1.symm) hown hT bo381 bo_inst bo_code (by decide) (Nat.le_of_ble_eq_true rfl) dX2_init_1 ?_
  refine x_aload_n hx hb hl 0 rfl dX2_init_4 rfl ?_
  refine x_iconst hx hb dX2_init_5 ?_
  refine b_newaI (N := 2) hx hb hT hE hB wq217 rfl (by decide) (by decide) (by decide) dX2_init_6 (fun H hB => ?_)
  have hB := bB_n (n1 := 2) rfl hB
  refine b_putF (j := 0) hx hb hown hT hE hB cls_X2 0 (by decide) rfl (by decide) (Nat.le_of_ble_eq_true rfl) rfl wq383 rfl hnm rfl rfl rfl dX2_init_8 (fun H locs hB => ?_)
  refine x_aload_n hx hb hl 0 rfl dX2_init_11 rfl ?_
  refine x_iconst hx hb dX2_init_12 ?_
  refine x_iconst hx hb dX2_init_13 ?_
  refine b_mna (N := 2) (K := 0) hx hb hown hT hE hB wq382 hO wq217 rfl rfl (by decide) (by decide) (by decide) dX2_init_14 (fun H hB => ?_)
  have hB := bB_n (n1 := 5) rfl hB
  have hB := bB_arq (k := 2) (f' := fun j => some (h0 + xrow xI 200 j)) hB rfl (by
      refine allS ?_ rfl
      refine allS ?_ rfl
      exact allZ)
  refine b_putF (j := 1) hx hb hown hT hE hB cls_X2 0 (by decide) rfl (by decide) (Nat.le_of_ble_eq_true rfl) rfl wq386 rfl hnm rfl rfl rfl dX2_init_18 (fun H locs hB => ?_)
  refine x_aload_n hx hb hl 0 rfl dX2_init_21 rfl ?_
  refine x_iconst hx hb dX2_init_22 ?_
  refine b_newaI (N := 2) hx hb hT hE hB wq217 rfl (by decide) (by decide) (by decide) dX2_init_23 (fun H hB => ?_)
  have hB := bB_n (n1 := 6) rfl hB
  refine b_putF (j := 2) hx hb hown hT hE hB cls_X2 0 (by decide) rfl (by decide) (Nat.le_of_ble_eq_true rfl) rfl wq387 rfl hnm rfl rfl rfl dX2_init_25 (fun H locs hB => ?_)
  refine x_aload_n hx hb hl 0 rfl dX2_init_28 rfl ?_
  refine x_bipush hx hb dX2_init_29 (by decide) ?_
  refine b_newaI (N := 10) hx hb hT hE hB wq217 rfl (by decide) (by decide) (by decide) dX2_init_31 (fun H hB => ?_)
  have hB := bB_n (n1 := 7) rfl hB
  refine b_putF (j := 3) hx hb hown hT hE hB cls_X2 0 (by decide) rfl (by decide) (Nat.le_of_ble_eq_true rfl) rfl wq388 rfl hnm rfl rfl rfl dX2_init_33 (fun H locs hB => ?_)
  refine x_aload_n hx hb hl 0 rfl dX2_init_36 rfl ?_
  refine x_bipush hx hb dX2_init_37 (by decide) ?_
  refine b_newaI (N := 10) hx hb hT hE hB wq217 rfl (by decide) (by decide) (by decide) dX2_init_39 (fun H hB => ?_)
  have hB := bB_n (n1 := 8) rfl hB
  refine b_putF (j := 4) hx hb hown hT hE hB cls_X2 0 (by decide) rfl (by decide) (Nat.le_of_ble_eq_true rfl) rfl wq392 rfl hnm rfl rfl rfl dX2_init_41 (fun H locs hB => ?_)
  refine x_aload_n hx hb hl 0 rfl dX2_init_44 rfl ?_
  refine x_bipush hx hb dX2_init_45 (by decide) ?_
  refine b_newaI (N := 10) hx hb hT hE hB wq217 rfl (by decide) (by decide) (by decide) dX2_init_47 (fun H hB => ?_)
  have hB := bB_n (n1 := 9) rfl hB
  refine b_putF (j := 5) hx hb hown hT hE hB cls_X2 0 (by decide) rfl (by decide) (Nat.le_of_ble_eq_true rfl) rfl wq395 rfl hnm rfl rfl rfl dX2_init_49 (fun H locs hB => ?_)
  refine x_aload_n hx hb hl 0 rfl dX2_init_52 rfl ?_
  refine x_bipush hx hb dX2_init_53 (by decide) ?_
  refine b_newaZ (N := 10) hx hb hT hE hB wq242 rfl (by decide) (by decide) (by decide) dX2_init_55 (fun H hB => ?_)
  have hB := bB_n (n1 := 10) rfl hB
  refine b_putF (j := 6) hx hb hown hT hE hB cls_X2 0 (by decide) rfl (by decide) (Nat.le_of_ble_eq_true rfl) rfl wq398 rfl hnm rfl rfl rfl dX2_init_57 (fun H locs hB => ?_)
  refine x_iconst hx hb dX2_init_60 ?_
  refine lv_istore_n (lv' := [(1, .int (xJ 0)), (0, .ref (h0 + 198))]) hx hb dX2_init_61 rfl hl (by decide) rfl (fun ls hl => ?_)
  refine x_iload_n hx hb hl 0 rfl dX2_init_62 rfl ?_
  refine x_iconst hx hb dX2_init_63 ?_
  refine x_icmp_ge (tgt := 80) hx hb (by decide) (by decide) dX2_init_64 (by decide) (fun h9 => absurd h9 (by decide)) (fun _ => ?_)
  refine x_aload_n hx hb hl 1 rfl dX2_init_67 rfl ?_
  refine b_get (j := 0) (v := .ref (h0 + 198 + 1)) hx hb hown hT hE hB cls_X2 0 (by decide) rfl (by decide) rfl wq383 dX2_init_68 ?_
  refine x_iload_n hx hb hl 0 rfl dX2_init_71 rfl ?_
  refine x_iconst hx hb dX2_init_72 ?_
  refine b_iast hx hb hE hB 1 (by decide) rfl (by decide) (by decide) dX2_init_73 (fun H locs hB => ?_)
  refine x_iinc (lv' := [(1, .int (xJ 1)), (0, .ref (h0 + 198))]) hx hb hl 0 rfl dX2_init_74 (by decide) rfl (fun ls hl => ?_)
  refine lv_goto (tgt := 62) hx hb dX2_init_77 (by decide) ?_
  refine x_iload_n hx hb hl 0 rfl dX2_init_62 rfl ?_
  refine x_iconst hx hb dX2_init_63 ?_
  refine x_icmp_ge (tgt := 80) hx hb (by decide) (by decide) dX2_init_64 (by decide) (fun h9 => absurd h9 (by decide)) (fun _ => ?_)
  refine x_aload_n hx hb hl 1 rfl dX2_init_67 rfl ?_
  refine b_get (j := 0) (v := .ref (h0 + 198 + 1)) hx hb hown hT hE hB cls_X2 0 (by decide) rfl (by decide) rfl wq383 dX2_init_68 ?_
  refine x_iload_n hx hb hl 0 rfl dX2_init_71 rfl ?_
  refine x_iconst hx hb dX2_init_72 ?_
  refine b_iast hx hb hE hB 1 (by decide) rfl (by decide) (by decide) dX2_init_73 (fun H locs hB => ?_)
  refine x_iinc (lv' := [(1, .int (xJ 2)), (0, .ref (h0 + 198))]) hx hb hl 0 rfl dX2_init_74 (by decide) rfl (fun ls hl => ?_)
  refine lv_goto (tgt := 62) hx hb dX2_init_77 (by decide) ?_
  refine x_iload_n hx hb hl 0 rfl dX2_init_62 rfl ?_
  refine x_iconst hx hb dX2_init_63 ?_
  refine x_icmp_ge (tgt := 80) hx hb (by decide) (by decide) dX2_init_64 (by decide) (fun _ => ?_) (fun h9 => absurd h9 (by decide))
  refine x_iconst hx hb dX2_init_80 ?_
  refine lv_istore_n (lv' := [(1, .int (xJ 0)), (0, .ref (h0 + 198))]) hx hb dX2_init_81 rfl hl (by decide) rfl (fun ls hl => ?_)
  refine x_iload_n hx hb hl 0 rfl dX2_init_82 rfl ?_
  refine x_bipush hx hb dX2_init_83 (by decide) ?_
  refine x_icmp_ge (tgt := 101) hx hb (by decide) (by decide) dX2_init_85 (by decide) (fun h9 => absurd h9 (by decide)) (fun _ => ?_)
  refine x_aload_n hx hb hl 1 rfl dX2_init_88 rfl ?_
  refine b_get (j := 3) (v := .ref (h0 + 198 + 6)) hx hb hown hT hE hB cls_X2 0 (by decide) rfl (by decide) rfl wq388 dX2_init_89 ?_
  refine x_iload_n hx hb hl 0 rfl dX2_init_92 rfl ?_
  refine x_iconst hx hb dX2_init_93 ?_
  refine b_iast hx hb hE hB 6 (by decide) rfl (by decide) (by decide) dX2_init_94 (fun H locs hB => ?_)
  refine x_iinc (lv' := [(1, .int (xJ 1)), (0, .ref (h0 + 198))]) hx hb hl 0 rfl dX2_init_95 (by decide) rfl (fun ls hl => ?_)
  refine lv_goto (tgt := 82) hx hb dX2_init_98 (by decide) ?_
  refine x_iload_n hx hb hl 0 rfl dX2_init_82 rfl ?_
  refine x_bipush hx hb dX2_init_83 (by decide) ?_
  refine x_icmp_ge (tgt := 101) hx hb (by decide) (by decide) dX2_init_85 (by decide) (fun h9 => absurd h9 (by decide)) (fun _ => ?_)
  refine x_aload_n hx hb hl 1 rfl dX2_init_88 rfl ?_
  refine b_get (j := 3) (v := .ref (h0 + 198 + 6)) hx hb hown hT hE hB cls_X2 0 (by decide) rfl (by decide) rfl wq388 dX2_init_89 ?_
  refine x_iload_n hx hb hl 0 rfl dX2_init_92 rfl ?_
  refine x_iconst hx hb dX2_init_93 ?_
  refine b_iast hx hb hE hB 6 (by decide) rfl (by decide) (by decide) dX2_init_94 (fun H locs hB => ?_)
  refine x_iinc (lv' := [(1, .int (xJ 2)), (0, .ref (h0 + 198))]) hx hb hl 0 rfl dX2_init_95 (by decide) rfl (fun ls hl => ?_)
  refine lv_goto (tgt := 82) hx hb dX2_init_98 (by decide) ?_
  refine x_iload_n hx hb hl 0 rfl dX2_init_82 rfl ?_
  refine x_bipush hx hb dX2_init_83 (by decide) ?_
  refine x_icmp_ge (tgt := 101) hx hb (by decide) (by decide) dX2_init_85 (by decide) (fun h9 => absurd h9 (by decide)) (fun _ => ?_)
  refine x_aload_n hx hb hl 1 rfl dX2_init_88 rfl ?_
  refine b_get (j := 3) (v := .ref (h0 + 198 + 6)) hx hb hown hT hE hB cls_X2 0 (by decide) rfl (by decide) rfl wq388 dX2_init_89 ?_
  refine x_iload_n hx hb hl 0 rfl dX2_init_92 rfl ?_
  refine x_iconst hx hb dX2_init_93 ?_
  refine b_iast hx hb hE hB 6 (by decide) rfl (by decide) (by decide) dX2_init_94 (fun H locs hB => ?_)
  refine x_iinc (lv' := [(1, .int (xJ 3)), (0, .ref (h0 + 198))]) hx hb hl 0 rfl dX2_init_95 (by decide) rfl (fun ls hl => ?_)
  refine lv_goto (tgt := 82) hx hb dX2_init_98 (by decide) ?_
  refine x_iload_n hx hb hl 0 rfl dX2_init_82 rfl ?_
  refine x_bipush hx hb dX2_init_83 (by decide) ?_
  refine x_icmp_ge (tgt := 101) hx hb (by decide) (by decide) dX2_init_85 (by decide) (fun h9 => absurd h9 (by decide)) (fun _ => ?_)
  refine x_aload_n hx hb hl 1 rfl dX2_init_88 rfl ?_
  refine b_get (j := 3) (v := .ref (h0 + 198 + 6)) hx hb hown hT hE hB cls_X2 0 (by decide) rfl (by decide) rfl wq388 dX2_init_89 ?_
  refine x_iload_n hx hb hl 0 rfl dX2_init_92 rfl ?_
  refine x_iconst hx hb dX2_init_93 ?_
  refine b_iast hx hb hE hB 6 (by decide) rfl (by decide) (by decide) dX2_init_94 (fun H locs hB => ?_)
  refine x_iinc (lv' := [(1, .int (xJ 4)), (0, .ref (h0 + 198))]) hx hb hl 0 rfl dX2_init_95 (by decide) rfl (fun ls hl => ?_)
  refine lv_goto (tgt := 82) hx hb dX2_init_98 (by decide) ?_
  refine x_iload_n hx hb hl 0 rfl dX2_init_82 rfl ?_
  refine x_bipush hx hb dX2_init_83 (by decide) ?_
  refine x_icmp_ge (tgt := 101) hx hb (by decide) (by decide) dX2_init_85 (by decide) (fun h9 => absurd h9 (by decide)) (fun _ => ?_)
  refine x_aload_n hx hb hl 1 rfl dX2_init_88 rfl ?_
  refine b_get (j := 3) (v := .ref (h0 + 198 + 6)) hx hb hown hT hE hB cls_X2 0 (by decide) rfl (by decide) rfl wq388 dX2_init_89 ?_
  refine x_iload_n hx hb hl 0 rfl dX2_init_92 rfl ?_
  refine x_iconst hx hb dX2_init_93 ?_
  refine b_iast hx hb hE hB 6 (by decide) rfl (by decide) (by decide) dX2_init_94 (fun H locs hB => ?_)
  refine x_iinc (lv' := [(1, .int (xJ 5)), (0, .ref (h0 + 198))]) hx hb hl 0 rfl dX2_init_95 (by decide) rfl (fun ls hl => ?_)
  refine lv_goto (tgt := 82) hx hb dX2_init_98 (by decide) ?_
  refine x_iload_n hx hb hl 0 rfl dX2_init_82 rfl ?_
  refine x_bipush hx hb dX2_init_83 (by decide) ?_
  refine x_icmp_ge (tgt := 101) hx hb (by decide) (by decide) dX2_init_85 (by decide) (fun h9 => absurd h9 (by decide)) (fun _ => ?_)
  refine x_aload_n hx hb hl 1 rfl dX2_init_88 rfl ?_
  refine b_get (j := 3) (v := .ref (h0 + 198 + 6)) hx hb hown hT hE hB cls_X2 0 (by decide) rfl (by decide) rfl wq388 dX2_init_89 ?_
  refine x_iload_n hx hb hl 0 rfl dX2_init_92 rfl ?_
  refine x_iconst hx hb dX2_init_93 ?_
  refine b_iast hx hb hE hB 6 (by decide) rfl (by decide) (by decide) dX2_init_94 (fun H locs hB => ?_)
  refine x_iinc (lv' := [(1, .int (xJ 6)), (0, .ref (h0 + 198))]) hx hb hl 0 rfl dX2_init_95 (by decide) rfl (fun ls hl => ?_)
  refine lv_goto (tgt := 82) hx hb dX2_init_98 (by decide) ?_
  refine x_iload_n hx hb hl 0 rfl dX2_init_82 rfl ?_
  refine x_bipush hx hb dX2_init_83 (by decide) ?_
  refine x_icmp_ge (tgt := 101) hx hb (by decide) (by decide) dX2_init_85 (by decide) (fun h9 => absurd h9 (by decide)) (fun _ => ?_)
  refine x_aload_n hx hb hl 1 rfl dX2_init_88 rfl ?_
  refine b_get (j := 3) (v := .ref (h0 + 198 + 6)) hx hb hown hT hE hB cls_X2 0 (by decide) rfl (by decide) rfl wq388 dX2_init_89 ?_
  refine x_iload_n hx hb hl 0 rfl dX2_init_92 rfl ?_
  refine x_iconst hx hb dX2_init_93 ?_
  refine b_iast hx hb hE hB 6 (by decide) rfl (by decide) (by decide) dX2_init_94 (fun H locs hB => ?_)
  refine x_iinc (lv' := [(1, .int (xJ 7)), (0, .ref (h0 + 198))]) hx hb hl 0 rfl dX2_init_95 (by decide) rfl (fun ls hl => ?_)
  refine lv_goto (tgt := 82) hx hb dX2_init_98 (by decide) ?_
  refine x_iload_n hx hb hl 0 rfl dX2_init_82 rfl ?_
  refine x_bipush hx hb dX2_init_83 (by decide) ?_
  refine x_icmp_ge (tgt := 101) hx hb (by decide) (by decide) dX2_init_85 (by decide) (fun h9 => absurd h9 (by decide)) (fun _ => ?_)
  refine x_aload_n hx hb hl 1 rfl dX2_init_88 rfl ?_
  refine b_get (j := 3) (v := .ref (h0 + 198 + 6)) hx hb hown hT hE hB cls_X2 0 (by decide) rfl (by decide) rfl wq388 dX2_init_89 ?_
  refine x_iload_n hx hb hl 0 rfl dX2_init_92 rfl ?_
  refine x_iconst hx hb dX2_init_93 ?_
  refine b_iast hx hb hE hB 6 (by decide) rfl (by decide) (by decide) dX2_init_94 (fun H locs hB => ?_)
  refine x_iinc (lv' := [(1, .int (xJ 8)), (0, .ref (h0 + 198))]) hx hb hl 0 rfl dX2_init_95 (by decide) rfl (fun ls hl => ?_)
  refine lv_goto (tgt := 82) hx hb dX2_init_98 (by decide) ?_
  refine x_iload_n hx hb hl 0 rfl dX2_init_82 rfl ?_
  refine x_bipush hx hb dX2_init_83 (by decide) ?_
  refine x_icmp_ge (tgt := 101) hx hb (by decide) (by decide) dX2_init_85 (by decide) (fun h9 => absurd h9 (by decide)) (fun _ => ?_)
  refine x_aload_n hx hb hl 1 rfl dX2_init_88 rfl ?_
  refine b_get (j := 3) (v := .ref (h0 + 198 + 6)) hx hb hown hT hE hB cls_X2 0 (by decide) rfl (by decide) rfl wq388 dX2_init_89 ?_
  refine x_iload_n hx hb hl 0 rfl dX2_init_92 rfl ?_
  refine x_iconst hx hb dX2_init_93 ?_
  refine b_iast hx hb hE hB 6 (by decide) rfl (by decide) (by decide) dX2_init_94 (fun H locs hB => ?_)
  refine x_iinc (lv' := [(1, .int (xJ 9)), (0, .ref (h0 + 198))]) hx hb hl 0 rfl dX2_init_95 (by decide) rfl (fun ls hl => ?_)
  refine lv_goto (tgt := 82) hx hb dX2_init_98 (by decide) ?_
  refine x_iload_n hx hb hl 0 rfl dX2_init_82 rfl ?_
  refine x_bipush hx hb dX2_init_83 (by decide) ?_
  refine x_icmp_ge (tgt := 101) hx hb (by decide) (by decide) dX2_init_85 (by decide) (fun h9 => absurd h9 (by decide)) (fun _ => ?_)
  refine x_aload_n hx hb hl 1 rfl dX2_init_88 rfl ?_
  refine b_get (j := 3) (v := .ref (h0 + 198 + 6)) hx hb hown hT hE hB cls_X2 0 (by decide) rfl (by decide) rfl wq388 dX2_init_89 ?_
  refine x_iload_n hx hb hl 0 rfl dX2_init_92 rfl ?_
  refine x_iconst hx hb dX2_init_93 ?_
  refine b_iast hx hb hE hB 6 (by decide) rfl (by decide) (by decide) dX2_init_94 (fun H locs hB => ?_)
  refine x_iinc (lv' := [(1, .int (xJ 10)), (0, .ref (h0 + 198))]) hx hb hl 0 rfl dX2_init_95 (by decide) rfl (fun ls hl => ?_)
  refine lv_goto (tgt := 82) hx hb dX2_init_98 (by decide) ?_
  refine x_iload_n hx hb hl 0 rfl dX2_init_82 rfl ?_
  refine x_bipush hx hb dX2_init_83 (by decide) ?_
  refine x_icmp_ge (tgt := 101) hx hb (by decide) (by decide) dX2_init_85 (by decide) (fun _ => ?_) (fun h9 => absurd h9 (by decide))
  refine x_aload_n hx hb hl 1 rfl dX2_init_101 rfl ?_
  refine x_iconst hx hb dX2_init_102 ?_
  refine b_put (j := 7) hx hb hown hT hE hB cls_X2 0 (by decide) rfl (by decide) (Nat.le_of_ble_eq_true rfl) rfl wq401 rfl rfl rfl dX2_init_103 (fun H locs hB => ?_)
  refine x_aload_n hx hb hl 1 rfl dX2_init_106 rfl ?_
  refine x_iconst hx hb dX2_init_107 ?_
  refine b_put (j := 8) hx hb hown hT hE hB cls_X2 0 (by decide) rfl (by decide) (Nat.le_of_ble_eq_true rfl) rfl wq404 rfl rfl rfl dX2_init_108 (fun H locs hB => ?_)
  refine x_aload_n hx hb hl 1 rfl dX2_init_111 rfl ?_
  refine x_iconst hx hb dX2_init_112 ?_
  refine b_put (j := 9) hx hb hown hT hE hB cls_X2 0 (by decide) rfl (by decide) (Nat.le_of_ble_eq_true rfl) rfl wq406 rfl rfl rfl dX2_init_113 (fun H locs hB => ?_)
  refine x_aload_n hx hb hl 1 rfl dX2_init_116 rfl ?_
  refine x_iconst hx hb dX2_init_117 ?_
  refine b_put (j := 10) hx hb hown hT hE hB cls_X2 0 (by decide) rfl (by decide) (Nat.le_of_ble_eq_true rfl) rfl wq409 rfl rfl rfl dX2_init_118 (fun H locs hB => ?_)
  refine x_aload_n hx hb hl 1 rfl dX2_init_121 rfl ?_
  refine x_iconst hx hb dX2_init_122 ?_
  refine b_put (j := 11) hx hb hown hT hE hB cls_X2 0 (by decide) rfl (by decide) (Nat.le_of_ble_eq_true rfl) rfl wq412 rfl rfl rfl dX2_init_123 (fun H locs hB => ?_)
  have hB := bB_arr (k := 1) (f' := fun j => xJ (xI 199 j)) hB rfl (by decide +kernel)
  have hB := bB_arr (k := 6) (f' := fun j => xJ (xI 204 j)) hB rfl (by decide +kernel)
  subst eQ
  refine b_vret hx hb hr hlk hB ?_ rfl rfl dX2_init_126
  refine allS ?_ rfl
  refine allS ?_ rfl
  refine allS ?_ rfl
  refine allS ?_ rfl
  refine allS ?_ rfl
  refine allS ?_ rfl
  refine allS ?_ rfl
  refine allS ?_ rfl
  refine allS ?_ rfl
  refine allS ?_ rfl
  exact allZ
theorem b_X2_208 (l : Launch) (D : va_G) (g : xG) (T : Nat × Nat × Nat) (h0 : Nat) : Met l yX2_init (xws yX2_init cX2_init 2 none) { frames := 1, cells := 9, slots := 46, locals := 20 } (bP [.ref (h0 + 208)] D g T (h0 + 208) (.inr (2, fz_X2))) (bQ D (h0 + 208) 10 (fun k => xcel h0 g xI (208 + k))) 9 46 (xA (h0 + 208)) := by
  refine b_met (by decide) (Nat.le_of_ble_eq_true rfl) ?_
  intro p e s m args below meth c hx hb hr hml hown hT hlk hnm hE hO hB ls hl
  have hl : lv_has ls 2 [(0, .ref (h0 + 208))] := hl
  obtain ⟨Q, eQ⟩ : ∃ Q, Q = MQ below (bQ D (h0 + 208) 10 (fun k => xcel h0 g xI (208 + k))) args s 9 46 (xA (h0 + 208)) := ⟨_, rfl⟩
  rw [← eQ]
  generalize hHe : ([] : List Loc) = locs at hB ⊢
  obtain ⟨H, eH⟩ : ∃ H, H = s.heap := ⟨_, rfl⟩
  rw [← eH] at hB ⊢
  refine x_aload_n hx hb hl 0 rfl dX2_init_0 rfl ?_
  refine b_obj hx hb (hml.trans hl.1.symm) hown hT bo381 bo_inst bo_code (by decide) (Nat.le_of_ble_eq_true rfl) dX2_init_1 ?_
  refine x_aload_n hx hb hl 0 rfl dX2_init_4 rfl ?_
  refine x_iconst hx hb dX2_init_5 ?_
  refine b_newaI (N := 2) hx hb hT hE hB wq217 rfl (by decide) (by decide) (by decide) dX2_init_6 (fun H hB => ?_)
  have hB := bB_n (n1 := 2) rfl hB
  refine b_putF (j := 0) hx hb hown hT hE hB cls_X2 0 (by decide) rfl (by decide) (Nat.le_of_ble_eq_true rfl) rfl wq383 rfl hnm rfl rfl rfl dX2_init_8 (fun H locs hB => ?_)
  refine x_aload_n hx hb hl 0 rfl dX2_init_11 rfl ?_
  refine x_iconst hx hb dX2_init_12 ?_
  refine x_iconst hx hb dX2_init_13 ?_
  refine b_mna (N := 2) (K := 0) hx hb hown hT hE hB wq382 hO wq217 rfl rfl (by decide) (by decide) (by decide) dX2_init_14 (fun H hB => ?_)
  have hB := bB_n (n1 := 5) rfl hB
  have hB := bB_arq (k := 2) (f' := fun j => some (h0 + xrow xI 210 j)) hB rfl (by
      refine allS ?_ rfl
      refine allS ?_ rfl
      exact allZ)
  refine b_putF (j := 1) hx hb hown hT hE hB cls_X2 0 (by decide) rfl (by decide) (Nat.le_of_ble_eq_true rfl) rfl wq386 rfl hnm rfl rfl rfl dX2_init_18 (fun H locs hB => ?_)
  refine x_aload_n hx hb hl 0 rfl dX2_init_21 rfl ?_
  refine x_iconst hx hb dX2_init_22 ?_
  refine b_newaI (N := 2) hx hb hT hE hB wq217 rfl (by decide) (by decide) (by decide) dX2_init_23 (fun H hB => ?_)
  have hB := bB_n (n1 := 6) rfl hB
  refine b_putF (j := 2) hx hb hown hT hE hB cls_X2 0 (by decide) rfl (by decide) (Nat.le_of_ble_eq_true rfl) rfl wq387 rfl hnm rfl rfl rfl dX2_init_25 (fun H locs hB => ?_)
  refine x_aload_n hx hb hl 0 rfl dX2_init_28 rfl ?_
  refine x_bipush hx hb dX2_init_29 (by decide) ?_
  refine b_newaI (N := 10) hx hb hT hE hB wq217 rfl (by decide) (by decide) (by decide) dX2_init_31 (fun H hB => ?_)
  have hB := bB_n (n1 := 7) rfl hB
  refine b_putF (j := 3) hx hb hown hT hE hB cls_X2 0 (by decide) rfl (by decide) (Nat.le_of_ble_eq_true rfl) rfl wq388 rfl hnm rfl rfl rfl dX2_init_33 (fun H locs hB => ?_)
  refine x_aload_n hx hb hl 0 rfl dX2_init_36 rfl ?_
  refine x_bipush hx hb dX2_init_37 (by decide) ?_
  refine b_newaI (N := 10) hx hb hT hE hB wq217 rfl (by decide) (by decide) (by decide) dX2_init_39 (fun H hB => ?_)
  have hB := bB_n (n1 := 8) rfl hB
  refine b_putF (j := 4) hx hb hown hT hE hB cls_X2 0 (by decide) rfl (by decide) (Nat.le_of_ble_eq_true rfl) rfl wq392 rfl hnm rfl rfl rfl dX2_init_41 (fun H locs hB => ?_)
  refine x_aload_n hx hb hl 0 rfl dX2_init_44 rfl ?_
  refine x_bipush hx hb dX2_init_45 (by decide) ?_
  refine b_newaI (N := 10) hx hb hT hE hB wq217 rfl (by decide) (by decide) (by decide) dX2_init_47 (fun H hB => ?_)
  have hB := bB_n (n1 := 9) rfl hB
  refine b_putF (j := 5) hx hb hown hT hE hB cls_X2 0 (by decide) rfl (by decide) (Nat.le_of_ble_eq_true rfl) rfl wq395 rfl hnm rfl rfl rfl dX2_init_49 (fun H locs hB => ?_)
  refine x_aload_n hx hb hl 0 rfl dX2_init_52 rfl ?_
  refine x_bipush hx hb dX2_init_53 (by decide) ?_
  refine b_newaZ (N := 10) hx hb hT hE hB wq242 rfl (by decide) (by decide) (by decide) dX2_init_55 (fun H hB => ?_)
  have hB := bB_n (n1 := 10) rfl hB
  refine b_putF (j := 6) hx hb hown hT hE hB cls_X2 0 (by decide) rfl (by decide) (Nat.le_of_ble_eq_true rfl) rfl wq398 rfl hnm rfl rfl rfl dX2_init_57 (fun H locs hB => ?_)
  refine x_iconst hx hb dX2_init_60 ?_
  refine lv_istore_n (lv' := [(1, .int (xJ 0)), (0, .ref (h0 + 208))]) hx hb dX2_init_61 rfl hl (by decide) rfl (fun ls hl => ?_)
  refine x_iload_n hx hb hl 0 rfl dX2_init_62 rfl ?_
  refine x_iconst hx hb dX2_init_63 ?_
  refine x_icmp_ge (tgt := 80) hx hb (by decide) (by decide) dX2_init_64 (by decide) (fun h9 => absurd h9 (by decide)) (fun _ => ?_)
  refine x_aload_n hx hb hl 1 rfl dX2_init_67 rfl ?_
  refine b_get (j := 0) (v := .ref (h0 + 208 + 1)) hx hb hown hT hE hB cls_X2 0 (by decide) rfl (by decide) rfl wq383 dX2_init_68 ?_
  refine x_iload_n hx hb hl 0 rfl dX2_init_71 rfl ?_
  refine x_iconst hx hb dX2_init_72 ?_
  refine b_iast hx hb hE hB 1 (by decide) rfl (by decide) (by decide) dX2_init_73 (fun H locs hB => ?_)
  refine x_iinc (lv' := [(1, .int (xJ 1)), (0, .ref (h0 + 208))]) hx hb hl 0 rfl dX2_init_74 (by decide) rfl (fun ls hl => ?_)
  refine lv_goto (tgt := 62) hx hb dX2_init_77 (by decide) ?_
  refine x_iload_n hx hb hl 0 rfl dX2_init_62 rfl ?_
  refine x_iconst hx hb dX2_init_63 ?_
  refine x_icmp_ge (tgt := 80) hx hb (by decide) (by decide) dX2_init_64 (by decide) (fun h9 => absurd h9 (by decide)) (fun _ => ?_)
  refine x_aload_n hx hb hl 1 rfl dX2_init_67 rfl ?_
  refine b_get (j := 0) (v := .ref (h0 + 208 + 1)) hx hb hown hT hE hB cls_X2 0 (by decide) rfl (by decide) rfl wq383 dX2_init_68 ?_
  refine x_iload_n hx hb hl 0 rfl dX2_init_71 rfl ?_
  refine x_iconst hx hb dX2_init_72 ?_
  refine b_iast hx hb hE hB 1 (by decide) rfl (by decide) (by decide) dX2_init_73 (fun H locs hB => ?_)
  refine x_iinc (lv' := [(1, .int (xJ 2)), (0, .ref (h0 + 208))]) hx hb hl 0 rfl dX2_init_74 (by decide) rfl (fun ls hl => ?_)
  refine lv_goto (tgt := 62) hx hb dX2_init_77 (by decide) ?_
  refine x_iload_n hx hb hl 0 rfl dX2_init_62 rfl ?_
  refine x_iconst hx hb dX2_init_63 ?_
  refine x_icmp_ge (tgt := 80) hx hb (by decide) (by decide) dX2_init_64 (by decide) (fun _ => ?_) (fun h9 => absurd h9 (by decide))
  refine x_iconst hx hb dX2_init_80 ?_
  refine lv_istore_n (lv' := [(1, .int (xJ 0)), (0, .ref (h0 + 208))]) hx hb dX2_init_81 rfl hl (by decide) rfl (fun ls hl => ?_)
  refine x_iload_n hx hb hl 0 rfl dX2_init_82 rfl ?_
  refine x_bipush hx hb dX2_init_83 (by decide) ?_
  refine x_icmp_ge (tgt := 101) hx hb (by decide) (by decide) dX2_init_85 (by decide) (fun h9 => absurd h9 (by decide)) (fun _ => ?_)
  refine x_aload_n hx hb hl 1 rfl dX2_init_88 rfl ?_
  refine b_get (j := 3) (v := .ref (h0 + 208 + 6)) hx hb hown hT hE hB cls_X2 0 (by decide) rfl (by decide) rfl wq388 dX2_init_89 ?_
  refine x_iload_n hx hb hl 0 rfl dX2_init_92 rfl ?_
  refine x_iconst hx hb dX2_init_93 ?_
  refine b_iast hx hb hE hB 6 (by decide) rfl (by decide) (by decide) dX2_init_94 (fun H locs hB => ?_)
  refine x_iinc (lv' := [(1, .int (xJ 1)), (0, .ref (h0 + 208))]) hx hb hl 0 rfl dX2_init_95 (by decide) rfl (fun ls hl => ?_)
  refine lv_goto (tgt := 82) hx hb dX2_init_98 (by decide) ?_
  refine x_iload_n hx hb hl 0 rfl dX2_init_82 rfl ?_
  refine x_bipush hx hb dX2_init_83 (by decide) ?_
  refine x_icmp_ge (tgt := 101) hx hb (by decide) (by decide) dX2_init_85 (by decide) (fun h9 => absurd h9 (by decide)) (fun _ => ?_)
  refine x_aload_n hx hb hl 1 rfl dX2_init_88 rfl ?_
  refine b_get (j := 3) (v := .ref (h0 + 208 + 6)) hx hb hown hT hE hB cls_X2 0 (by decide) rfl (by decide) rfl wq388 dX2_init_89 ?_
  refine x_iload_n hx hb hl 0 rfl dX2_init_92 rfl ?_
  refine x_iconst hx hb dX2_init_93 ?_
  refine b_iast hx hb hE hB 6 (by decide) rfl (by decide) (by decide) dX2_init_94 (fun H locs hB => ?_)
  refine x_iinc (lv' := [(1, .int (xJ 2)), (0, .ref (h0 + 208))]) hx hb hl 0 rfl dX2_init_95 (by decide) rfl (fun ls hl => ?_)
  refine lv_goto (tgt := 82) hx hb dX2_init_98 (by decide) ?_
  refine x_iload_n hx hb hl 0 rfl dX2_init_82 rfl ?_
  refine x_bipush hx hb dX2_init_83 (by decide) ?_
  refine x_icmp_ge (tgt := 101) hx hb (by decide) (by decide) dX2_init_85 (by decide) (fun h9 => absurd h9 (by decide)) (fun _ => ?_)
  refine x_aload_n hx hb hl 1 rfl dX2_init_88 rfl ?_
  refine b_get (j := 3) (v := .ref (h0 + 208 + 6)) hx hb hown hT hE hB cls_X2 0 (by decide) rfl (by decide) rfl wq388 dX2_init_89 ?_
  refine x_iload_n hx hb hl 0 rfl dX2_init_92 rfl ?_
  refine x_iconst hx hb dX2_init_93 ?_
  refine b_iast hx hb hE hB 6 (by decide) rfl (by decide) (by decide) dX2_init_94 (fun H locs hB => ?_)
  refine x_iinc (lv' := [(1, .int (xJ 3)), (0, .ref (h0 + 208))]) hx hb hl 0 rfl dX2_init_95 (by decide) rfl (fun ls hl => ?_)
  refine lv_goto (tgt := 82) hx hb dX2_init_98 (by decide) ?_
  refine x_iload_n hx hb hl 0 rfl dX2_init_82 rfl ?_
  refine x_bipush hx hb dX2_init_83 (by decide) ?_
  refine x_icmp_ge (tgt := 101) hx hb (by decide) (by decide) dX2_init_85 (by decide) (fun h9 => absurd h9 (by decide)) (fun _ => ?_)
  refine x_aload_n hx hb hl 1 rfl dX2_init_88 rfl ?_
  refine b_get (j := 3) (v := .ref (h0 + 208 + 6)) hx hb hown hT hE hB cls_X2 0 (by decide) rfl (by decide) rfl wq388 dX2_init_89 ?_
  refine x_iload_n hx hb hl 0 rfl dX2_init_92 rfl ?_
  refine x_iconst hx hb dX2_init_93 ?_
  refine b_iast hx hb hE hB 6 (by decide) rfl (by decide) (by decide) dX2_init_94 (fun H locs hB => ?_)
  refine x_iinc (lv' := [(1, .int (xJ 4)), (0, .ref (h0 + 208))]) hx hb hl 0 rfl dX2_init_95 (by decide) rfl (fun ls hl => ?_)
  refine lv_goto (tgt := 82) hx hb dX2_init_98 (by decide) ?_
  refine x_iload_n hx hb hl 0 rfl dX2_init_82 rfl ?_
  refine x_bipush hx hb dX2_init_83 (by decide) ?_
  refine x_icmp_ge (tgt := 101) hx hb (by decide) (by decide) dX2_init_85 (by decide) (fun h9 => absurd h9 (by decide)) (fun _ => ?_)
  refine x_aload_n hx hb hl 1 rfl dX2_init_88 rfl ?_
  refine b_get (j := 3) (v := .ref (h0 + 208 + 6)) hx hb hown hT hE hB cls_X2 0 (by decide) rfl (by decide) rfl wq388 dX2_init_89 ?_
  refine x_iload_n hx hb hl 0 rfl dX2_init_92 rfl ?_
  refine x_iconst hx hb dX2_init_93 ?_
  refine b_iast hx hb hE hB 6 (by decide) rfl (by decide) (by decide) dX2_init_94 (fun H locs hB => ?_)
  refine x_iinc (lv' := [(1, .int (xJ 5)), (0, .ref (h0 + 208))]) hx hb hl 0 rfl dX2_init_95 (by decide) rfl (fun ls hl => ?_)
  refine lv_goto (tgt := 82) hx hb dX2_init_98 (by decide) ?_
  refine x_iload_n hx hb hl 0 rfl dX2_init_82 rfl ?_
  refine x_bipush hx hb dX2_init_83 (by decide) ?_
  refine x_icmp_ge (tgt := 101) hx hb (by decide) (by decide) dX2_init_85 (by decide) (fun h9 => absurd h9 (by decide)) (fun _ => ?_)
  refine x_aload_n hx hb hl 1 rfl dX2_init_88 rfl ?_
  refine b_get (j := 3) (v := .ref (h0 + 208 + 6)) hx hb hown hT hE hB cls_X2 0 (by decide) rfl (by decide) rfl wq388 dX2_init_89 ?_
  refine x_iload_n hx hb hl 0 rfl dX2_init_92 rfl ?_
  refine x_iconst hx hb dX2_init_93 ?_
  refine b_iast hx hb hE hB 6 (by decide) rfl (by decide) (by decide) dX2_init_94 (fun H locs hB => ?_)
  refine x_iinc (lv' := [(1, .int (xJ 6)), (0, .ref (h0 + 208))]) hx hb hl 0 rfl dX2_init_95 (by decide) rfl (fun ls hl => ?_)
  refine lv_goto (tgt := 82) hx hb dX2_init_98 (by decide) ?_
  refine x_iload_n hx hb hl 0 rfl dX2_init_82 rfl ?_
  refine x_bipush hx hb dX2_init_83 (by decide) ?_
  refine x_icmp_ge (tgt := 101) hx hb (by decide) (by decide) dX2_init_85 (by decide) (fun h9 => absurd h9 (by decide)) (fun _ => ?_)
  refine x_aload_n hx hb hl 1 rfl dX2_init_88 rfl ?_
  refine b_get (j := 3) (v := .ref (h0 + 208 + 6)) hx hb hown hT hE hB cls_X2 0 (by decide) rfl (by decide) rfl wq388 dX2_init_89 ?_
  refine x_iload_n hx hb hl 0 rfl dX2_init_92 rfl ?_
  refine x_iconst hx hb dX2_init_93 ?_
  refine b_iast hx hb hE hB 6 (by decide) rfl (by decide) (by decide) dX2_init_94 (fun H locs hB => ?_)
  refine x_iinc (lv' := [(1, .int (xJ 7)), (0, .ref (h0 + 208))]) hx hb hl 0 rfl dX2_init_95 (by decide) rfl (fun ls hl => ?_)
  refine lv_goto (tgt := 82) hx hb dX2_init_98 (by decide) ?_
  refine x_iload_n hx hb hl 0 rfl dX2_init_82 rfl ?_
  refine x_bipush hx hb dX2_init_83 (by decide) ?_
  refine x_icmp_ge (tgt := 101) hx hb (by decide) (by decide) dX2_init_85 (by decide) (fun h9 => absurd h9 (by decide)) (fun _ => ?_)
  refine x_aload_n hx hb hl 1 rfl dX2_init_88 rfl ?_
  refine b_get (j := 3) (v := .ref (h0 + 208 + 6)) hx hb hown hT hE hB cls_X2 0 (by decide) rfl (by decide) rfl wq388 dX2_init_89 ?_
  refine x_iload_n hx hb hl 0 rfl dX2_init_92 rfl ?_
  refine x_iconst hx hb dX2_init_93 ?_
  refine b_iast hx hb hE hB 6 (by decide) rfl (by decide) (by decide) dX2_init_94 (fun H locs hB => ?_)
  refine x_iinc (lv' := [(1, .int (xJ 8)), (0, .ref (h0 + 208))]) hx hb hl 0 rfl dX2_init_95 (by decide) rfl (fun ls hl => ?_)
  refine lv_goto (tgt := 82) hx hb dX2_init_98 (by decide) ?_
  refine x_iload_n hx hb hl 0 rfl dX2_init_82 rfl ?_
  refine x_bipush hx hb dX2_init_83 (by decide) ?_
  refine x_icmp_ge (tgt := 101) hx hb (by decide) (by decide) dX2_init_85 (by decide) (fun h9 => absurd h9 (by decide)) (fun _ => ?_)
  refine x_aload_n hx hb hl 1 rfl dX2_init_88 rfl ?_
  refine b_get (j := 3) (v := .ref (h0 + 208 + 6)) hx hb hown hT hE hB cls_X2 0 (by decide) rfl (by decide) rfl wq388 dX2_init_89 ?_
  refine x_iload_n hx hb hl 0 rfl dX2_init_92 rfl ?_
  refine x_iconst hx hb dX2_init_93 ?_
  refine b_iast hx hb hE hB 6 (by decide) rfl (by decide) (by decide) dX2_init_94 (fun H locs hB => ?_)
  refine x_iinc (lv' := [(1, .int (xJ 9)), (0, .ref (h0 + 208))]) hx hb hl 0 rfl dX2_init_95 (by decide) rfl (fun ls hl => ?_)
  refine lv_goto (tgt := 82) hx hb dX2_init_98 (by decide) ?_
  refine x_iload_n hx hb hl 0 rfl dX2_init_82 rfl ?_
  refine x_bipush hx hb dX2_init_83 (by decide) ?_
  refine x_icmp_ge (tgt := 101) hx hb (by decide) (by decide) dX2_init_85 (by decide) (fun h9 => absurd h9 (by decide)) (fun _ => ?_)
  refine x_aload_n hx hb hl 1 rfl dX2_init_88 rfl ?_
  refine b_get (j := 3) (v := .ref (h0 + 208 + 6)) hx hb hown hT hE hB cls_X2 0 (by decide) rfl (by decide) rfl wq388 dX2_init_89 ?_
  refine x_iload_n hx hb hl 0 rfl dX2_init_92 rfl ?_
  refine x_iconst hx hb dX2_init_93 ?_
  refine b_iast hx hb hE hB 6 (by decide) rfl (by decide) (by decide) dX2_init_94 (fun H locs hB => ?_)
  refine x_iinc (lv' := [(1, .int (xJ 10)), (0, .ref (h0 + 208))]) hx hb hl 0 rfl dX2_init_95 (by decide) rfl (fun ls hl => ?_)
  refine lv_goto (tgt := 82) hx hb dX2_init_98 (by decide) ?_
  refine x_iload_n hx hb hl 0 rfl dX2_init_82 rfl ?_
  refine x_bipush hx hb dX2_init_83 (by decide) ?_
  refine x_icmp_ge (tgt := 101) hx hb (by decide) (by decide) dX2_init_85 (by decide) (fun _ => ?_) (fun h9 => absurd h9 (by decide))
  refine x_aload_n hx hb hl 1 rfl dX2_init_101 rfl ?_
  refine x_iconst hx hb dX2_init_102 ?_
  refine b_put (j := 7) hx hb hown hT hE hB cls_X2 0 (by decide) rfl (by decide) (Nat.le_of_ble_eq_true rfl) rfl wq401 rfl rfl rfl dX2_init_103 (fun H locs hB => ?_)
  refine x_aload_n hx hb hl 1 rfl dX2_init_106 rfl ?_
  refine x_iconst hx hb dX2_init_107 ?_
  refine b_put (j := 8) hx hb hown hT hE hB cls_X2 0 (by decide) rfl (by decide) (Nat.le_of_ble_eq_true rfl) rfl wq404 rfl rfl rfl dX2_init_108 (fun H locs hB => ?_)
  refine x_aload_n hx hb hl 1 rfl dX2_init_111 rfl ?_
  refine x_iconst hx hb dX2_init_112 ?_
  refine b_put (j := 9) hx hb hown hT hE hB cls_X2 0 (by decide) rfl (by decide) (Nat.le_of_ble_eq_true rfl) rfl wq406 rfl rfl rfl dX2_init_113 (fun H locs hB => ?_)
  refine x_aload_n hx hb hl 1 rfl dX2_init_116 rfl ?_
  refine x_iconst hx hb dX2_init_117 ?_
  refine b_put (j := 10) hx hb hown hT hE hB cls_X2 0 (by decide) rfl (by decide) (Nat.le_of_ble_eq_true rfl) rfl wq409 rfl rfl rfl dX2_init_118 (fun H locs hB => ?_)
  refine x_aload_n hx hb hl 1 rfl dX2_init_121 rfl ?_
  refine x_iconst hx hb dX2_init_122 ?_
  refine b_put (j := 11) hx hb hown hT hE hB cls_X2 0 (by decide) rfl (by decide) (Nat.le_of_ble_eq_true rfl) rfl wq412 rfl rfl rfl dX2_init_123 (fun H locs hB => ?_)
  have hB := bB_arr (k := 1) (f' := fun j => xJ (xI 209 j)) hB rfl (by decide +kernel)
  have hB := bB_arr (k := 6) (f' := fun j => xJ (xI 214 j)) hB rfl (by decide +kernel)
  subst eQ
  refine b_vret hx hb hr hlk hB ?_ rfl rfl dX2_init_126
  refine allS ?_ rfl
  refine allS ?_ rfl
  refine allS ?_ rfl
  refine allS ?_ rfl
  refine allS ?_ rfl
  refine allS ?_ rfl
  refine allS ?_ rfl
  refine allS ?_ rfl
  refine allS ?_ rfl
  refine allS ?_ rfl
  exact allZ
theorem b_X3_156 (l : Launch) (D : va_G) (g : xG) (T : Nat × Nat × Nat) (h0 : Nat) : Met l yX3_init (xws yX3_init cX3_init 4 none) { frames := 2, cells := 104, slots := 3805, locals := 41 } (bP [.ref (h0 + 156), .ref (h0 + 128), .ref (h0 + 136)] D g T (h0 + 156) (.inr (3, fz_X3))) (bQ D (h0 + 156) 105 (fun k => xcel h0 g xI (156 + k))) 104 3805 (xA (h0 + 156)) := by
  refine b_met (by decide) (Nat.le_of_ble_eq_true rfl) ?_
  intro p e s m args below meth c hx hb hr hml hown hT hlk hnm hE hO hB ls hl
  have hl : lv_has ls 4 [(0, .ref (h0 + 156)), (1, .ref (h0 + 128)), (2, .ref (h0 + 136))] := hl
  obtain ⟨Q, eQ⟩ : ∃ Q, Q = MQ below (bQ D (h0 + 156) 105 (fun k => xcel h0 g xI (156 + k))) args s 104 3805 (xA (h0 + 156)) := ⟨_, rfl⟩
  rw [← eQ]
  generalize hHe : ([] : List Loc) = locs at hB ⊢
  obtain ⟨H, eH⟩ : ∃ H, H = s.heap := ⟨_, rfl⟩
  rw [← eH] at hB ⊢
  refine x_aload_n hx hb hl 0 rfl dX3_init_0 rfl ?_
  refine b_obj hx hb (hml.trans hl.1.symm) hown hT bo445 bo_inst bo_code (by decide) (Nat.le_of_ble_eq_true rfl) dX3_init_1 ?_
  refine x_aload_n hx hb hl 0 rfl dX3_init_4 rfl ?_
  refine x_aload_n hx hb hl 1 rfl dX3_init_5 rfl ?_
  refine b_putF (j := 0) hx hb hown hT hE hB cls_X3 0 (by decide) rfl (by decide) (Nat.le_of_ble_eq_true rfl) rfl wq450 rfl hnm rfl rfl rfl dX3_init_6 (fun H locs hB => ?_)
  refine x_aload_n hx hb hl 0 rfl dX3_init_9 rfl ?_
  refine x_aload_n hx hb hl 2 rfl dX3_init_10 rfl ?_
  refine b_putF (j := 1) hx hb hown hT hE hB cls_X3 0 (by decide) rfl (by decide) (Nat.le_of_ble_eq_true rfl) rfl wq451 rfl hnm rfl rfl rfl dX3_init_11 (fun H locs hB => ?_)
  refine x_aload_n hx hb hl 0 rfl dX3_init_14 rfl ?_
  refine x_bipush hx hb dX3_init_15 (by decide) ?_
  refine b_anew (N := 6) hx hb hown hT hE hB wq446 hO rfl (by decide) (by decide) (by decide) dX3_init_17 (fun H hB => ?_)
  have hB := bB_n (n1 := 2) rfl hB
  refine b_putF (j := 2) hx hb hown hT hE hB cls_X3 0 (by decide) rfl (by decide) (Nat.le_of_ble_eq_true rfl) rfl wq452 rfl hnm rfl rfl rfl dX3_init_20 (fun H locs hB => ?_)
  refine x_iconst hx hb dX3_init_23 ?_
  refine lv_istore_n (lv' := [(3, .int (xJ 0)), (0, .ref (h0 + 156)), (1, .ref (h0 + 128)), (2, .ref (h0 + 136))]) hx hb dX3_init_24 rfl hl (by decide) rfl (fun ls hl => ?_)
  refine x_iload_n hx hb hl 0 rfl dX3_init_25 rfl ?_
  refine x_iconst hx hb dX3_init_26 ?_
  refine x_icmp_gt (tgt := 49) hx hb (by decide) (by decide) dX3_init_27 (by decide) (fun h9 => absurd h9 (by decide)) (fun _ => ?_)
  refine x_aload_n hx hb hl 1 rfl dX3_init_30 rfl ?_
  refine b_get (j := 2) (v := .ref (h0 + 156 + 1)) hx hb hown hT hE hB cls_X3 0 (by decide) rfl (by decide) rfl wq452 dX3_init_31 ?_
  refine x_iload_n hx hb hl 0 rfl dX3_init_34 rfl ?_
  refine b_new hx hb hown hT hE hB cls_X2 bz_X2 wq446 wq377 wq176 (by decide) (by decide) dX3_init_35 (fun H hB => ?_)
  have hB := bB_n (n1 := 3) rfl hB
  refine lv_dup hx hb dX3_init_38 rfl ?_
  refine b_go (b := h0 + 156) (n := 2) (b_runN (b := h0 + 156) (n := 2) (As := []) hx hb hml hown hT hE hO hB rfl hl.1 cf_X2_init wq379 rfl wn448 (b_X2_158 l D g T h0) ⟨rfl, rfl, ⟨by decide, by decide⟩, ⟨by decide, by decide⟩⟩ rfl rfl (Nat.le_of_ble_eq_true rfl) dX3_init_39) hB (fun H locs hB => ?_)
  have hB := bB_n (n1 := 12) rfl hB
  refine b_aast (kd := 2) hx hb hE hB 1 (by decide) rfl (by decide) rfl rfl (by decide) (by decide) dX3_init_42 (fun H locs hB => ?_)
  refine x_iinc (lv' := [(3, .int (xJ 1)), (0, .ref (h0 + 156)), (1, .ref (h0 + 128)), (2, .ref (h0 + 136))]) hx hb hl 0 rfl dX3_init_43 (by decide) rfl (fun ls hl => ?_)
  refine lv_goto (tgt := 25) hx hb dX3_init_46 (by decide) ?_
  refine x_iload_n hx hb hl 0 rfl dX3_init_25 rfl ?_
  refine x_iconst hx hb dX3_init_26 ?_
  refine x_icmp_gt (tgt := 49) hx hb (by decide) (by decide) dX3_init_27 (by decide) (fun h9 => absurd h9 (by decide)) (fun _ => ?_)
  refine x_aload_n hx hb hl 1 rfl dX3_init_30 rfl ?_
  refine b_get (j := 2) (v := .ref (h0 + 156 + 1)) hx hb hown hT hE hB cls_X3 0 (by decide) rfl (by decide) rfl wq452 dX3_init_31 ?_
  refine x_iload_n hx hb hl 0 rfl dX3_init_34 rfl ?_
  refine b_new hx hb hown hT hE hB cls_X2 bz_X2 wq446 wq377 wq176 (by decide) (by decide) dX3_init_35 (fun H hB => ?_)
  have hB := bB_n (n1 := 13) rfl hB
  refine lv_dup hx hb dX3_init_38 rfl ?_
  refine b_go (b := h0 + 156) (n := 12) (b_runN (b := h0 + 156) (n := 12) (As := []) hx hb hml hown hT hE hO hB rfl hl.1 cf_X2_init wq379 rfl wn448 (b_X2_168 l D g T h0) ⟨rfl, rfl, ⟨by decide, by decide⟩, ⟨by decide, by decide⟩⟩ rfl rfl (Nat.le_of_ble_eq_true rfl) dX3_init_39) hB (fun H locs hB => ?_)
  have hB := bB_n (n1 := 22) rfl hB
  refine b_aast (kd := 12) hx hb hE hB 1 (by decide) rfl (by decide) rfl rfl (by decide) (by decide) dX3_init_42 (fun H locs hB => ?_)
  refine x_iinc (lv' := [(3, .int (xJ 2)), (0, .ref (h0 + 156)), (1, .ref (h0 + 128)), (2, .ref (h0 + 136))]) hx hb hl 0 rfl dX3_init_43 (by decide) rfl (fun ls hl => ?_)
  refine lv_goto (tgt := 25) hx hb dX3_init_46 (by decide) ?_
  refine x_iload_n hx hb hl 0 rfl dX3_init_25 rfl ?_
  refine x_iconst hx hb dX3_init_26 ?_
  refine x_icmp_gt (tgt := 49) hx hb (by decide) (by decide) dX3_init_27 (by decide) (fun h9 => absurd h9 (by decide)) (fun _ => ?_)
  refine x_aload_n hx hb hl 1 rfl dX3_init_30 rfl ?_
  refine b_get (j := 2) (v := .ref (h0 + 156 + 1)) hx hb hown hT hE hB cls_X3 0 (by decide) rfl (by decide) rfl wq452 dX3_init_31 ?_
  refine x_iload_n hx hb hl 0 rfl dX3_init_34 rfl ?_
  refine b_new hx hb hown hT hE hB cls_X2 bz_X2 wq446 wq377 wq176 (by decide) (by decide) dX3_init_35 (fun H hB => ?_)
  have hB := bB_n (n1 := 23) rfl hB
  refine lv_dup hx hb dX3_init_38 rfl ?_
  refine b_go (b := h0 + 156) (n := 22) (b_runN (b := h0 + 156) (n := 22) (As := []) hx hb hml hown hT hE hO hB rfl hl.1 cf_X2_init wq379 rfl wn448 (b_X2_178 l D g T h0) ⟨rfl, rfl, ⟨by decide, by decide⟩, ⟨by decide, by decide⟩⟩ rfl rfl (Nat.le_of_ble_eq_true rfl) dX3_init_39) hB (fun H locs hB => ?_)
  have hB := bB_n (n1 := 32) rfl hB
  refine b_aast (kd := 22) hx hb hE hB 1 (by decide) rfl (by decide) rfl rfl (by decide) (by decide) dX3_init_42 (fun H locs hB => ?_)
  refine x_iinc (lv' := [(3, .int (xJ 3)), (0, .ref (h0 + 156)), (1, .ref (h0 + 128)), (2, .ref (h0 + 136))]) hx hb hl 0 rfl dX3_init_43 (by decide) rfl (fun ls hl => ?_)
  refine lv_goto (tgt := 25) hx hb dX3_init_46 (by decide) ?_
  refine x_iload_n hx hb hl 0 rfl dX3_init_25 rfl ?_
  refine x_iconst hx hb dX3_init_26 ?_
  refine x_icmp_gt (tgt := 49) hx hb (by decide) (by decide) dX3_init_27 (by decide) (fun h9 => absurd h9 (by decide)) (fun _ => ?_)
  refine x_aload_n hx hb hl 1 rfl dX3_init_30 rfl ?_
  refine b_get (j := 2) (v := .ref (h0 + 156 + 1)) hx hb hown hT hE hB cls_X3 0 (by decide) rfl (by decide) rfl wq452 dX3_init_31 ?_
  refine x_iload_n hx hb hl 0 rfl dX3_init_34 rfl ?_
  refine b_new hx hb hown hT hE hB cls_X2 bz_X2 wq446 wq377 wq176 (by decide) (by decide) dX3_init_35 (fun H hB => ?_)
  have hB := bB_n (n1 := 33) rfl hB
  refine lv_dup hx hb dX3_init_38 rfl ?_
  refine b_go (b := h0 + 156) (n := 32) (b_runN (b := h0 + 156) (n := 32) (As := []) hx hb hml hown hT hE hO hB rfl hl.1 cf_X2_init wq379 rfl wn448 (b_X2_188 l D g T h0) ⟨rfl, rfl, ⟨by decide, by decide⟩, ⟨by decide, by decide⟩⟩ rfl rfl (Nat.le_of_ble_eq_true rfl) dX3_init_39) hB (fun H locs hB => ?_)
  have hB := bB_n (n1 := 42) rfl hB
  refine b_aast (kd := 32) hx hb hE hB 1 (by decide) rfl (by decide) rfl rfl (by decide) (by decide) dX3_init_42 (fun H locs hB => ?_)
  refine x_iinc (lv' := [(3, .int (xJ 4)), (0, .ref (h0 + 156)), (1, .ref (h0 + 128)), (2, .ref (h0 + 136))]) hx hb hl 0 rfl dX3_init_43 (by decide) rfl (fun ls hl => ?_)
  refine lv_goto (tgt := 25) hx hb dX3_init_46 (by decide) ?_
  refine x_iload_n hx hb hl 0 rfl dX3_init_25 rfl ?_
  refine x_iconst hx hb dX3_init_26 ?_
  refine x_icmp_gt (tgt := 49) hx hb (by decide) (by decide) dX3_init_27 (by decide) (fun h9 => absurd h9 (by decide)) (fun _ => ?_)
  refine x_aload_n hx hb hl 1 rfl dX3_init_30 rfl ?_
  refine b_get (j := 2) (v := .ref (h0 + 156 + 1)) hx hb hown hT hE hB cls_X3 0 (by decide) rfl (by decide) rfl wq452 dX3_init_31 ?_
  refine x_iload_n hx hb hl 0 rfl dX3_init_34 rfl ?_
  refine b_new hx hb hown hT hE hB cls_X2 bz_X2 wq446 wq377 wq176 (by decide) (by decide) dX3_init_35 (fun H hB => ?_)
  have hB := bB_n (n1 := 43) rfl hB
  refine lv_dup hx hb dX3_init_38 rfl ?_
  refine b_go (b := h0 + 156) (n := 42) (b_runN (b := h0 + 156) (n := 42) (As := []) hx hb hml hown hT hE hO hB rfl hl.1 cf_X2_init wq379 rfl wn448 (b_X2_198 l D g T h0) ⟨rfl, rfl, ⟨by decide, by decide⟩, ⟨by decide, by decide⟩⟩ rfl rfl (Nat.le_of_ble_eq_true rfl) dX3_init_39) hB (fun H locs hB => ?_)
  have hB := bB_n (n1 := 52) rfl hB
  refine b_aast (kd := 42) hx hb hE hB 1 (by decide) rfl (by decide) rfl rfl (by decide) (by decide) dX3_init_42 (fun H locs hB => ?_)
  refine x_iinc (lv' := [(3, .int (xJ 5)), (0, .ref (h0 + 156)), (1, .ref (h0 + 128)), (2, .ref (h0 + 136))]) hx hb hl 0 rfl dX3_init_43 (by decide) rfl (fun ls hl => ?_)
  refine lv_goto (tgt := 25) hx hb dX3_init_46 (by decide) ?_
  refine x_iload_n hx hb hl 0 rfl dX3_init_25 rfl ?_
  refine x_iconst hx hb dX3_init_26 ?_
  refine x_icmp_gt (tgt := 49) hx hb (by decide) (by decide) dX3_init_27 (by decide) (fun h9 => absurd h9 (by decide)) (fun _ => ?_)
  refine x_aload_n hx hb hl 1 rfl dX3_init_30 rfl ?_
  refine b_get (j := 2) (v := .ref (h0 + 156 + 1)) hx hb hown hT hE hB cls_X3 0 (by decide) rfl (by decide) rfl wq452 dX3_init_31 ?_
  refine x_iload_n hx hb hl 0 rfl dX3_init_34 rfl ?_
  refine b_new hx hb hown hT hE hB cls_X2 bz_X2 wq446 wq377 wq176 (by decide) (by decide) dX3_init_35 (fun H hB => ?_)
  have hB := bB_n (n1 := 53) rfl hB
  refine lv_dup hx hb dX3_init_38 rfl ?_
  refine b_go (b := h0 + 156) (n := 52) (b_runN (b := h0 + 156) (n := 52) (As := []) hx hb hml hown hT hE hO hB rfl hl.1 cf_X2_init wq379 rfl wn448 (b_X2_208 l D g T h0) ⟨rfl, rfl, ⟨by decide, by decide⟩, ⟨by decide, by decide⟩⟩ rfl rfl (Nat.le_of_ble_eq_true rfl) dX3_init_39) hB (fun H locs hB => ?_)
  have hB := bB_n (n1 := 62) rfl hB
  refine b_aast (kd := 52) hx hb hE hB 1 (by decide) rfl (by decide) rfl rfl (by decide) (by decide) dX3_init_42 (fun H locs hB => ?_)
  refine x_iinc (lv' := [(3, .int (xJ 6)), (0, .ref (h0 + 156)), (1, .ref (h0 + 128)), (2, .ref (h0 + 136))]) hx hb hl 0 rfl dX3_init_43 (by decide) rfl (fun ls hl => ?_)
  refine lv_goto (tgt := 25) hx hb dX3_init_46 (by decide) ?_
  refine x_iload_n hx hb hl 0 rfl dX3_init_25 rfl ?_
  refine x_iconst hx hb dX3_init_26 ?_
  refine x_icmp_gt (tgt := 49) hx hb (by decide) (by decide) dX3_init_27 (by decide) (fun _ => ?_) (fun h9 => absurd h9 (by decide))
  refine x_aload_n hx hb hl 1 rfl dX3_init_49 rfl ?_
  refine x_iconst hx hb dX3_init_50 ?_
  refine x_iconst hx hb dX3_init_51 ?_
  refine b_mna (N := 5) (K := 1) hx hb hown hT hE hB wq449 hO wq217 rfl rfl (by decide) (by decide) (by decide) dX3_init_52 (fun H hB => ?_)
  have hB := bB_n (n1 := 68) rfl hB
  have hB := bB_arq (k := 62) (f' := fun j => some (h0 + xrow xI 218 j)) hB rfl (fun j hj => by rw [if_pos hj]; show some _ = some (h0 + (219 + j)); congr 1; omega)
  refine b_putF (j := 3) hx hb hown hT hE hB cls_X3 0 (by decide) rfl (by decide) (Nat.le_of_ble_eq_true rfl) rfl wq453 rfl hnm rfl rfl rfl dX3_init_56 (fun H locs hB => ?_)
  refine x_iconst hx hb dX3_init_59 ?_
  refine lv_istore_n (lv' := [(3, .int (xJ 0)), (0, .ref (h0 + 156)), (1, .ref (h0 + 128)), (2, .ref (h0 + 136))]) hx hb dX3_init_60 rfl hl (by decide) rfl (fun ls hl => ?_)
  refine x_iload_n hx hb hl 0 rfl dX3_init_61 rfl ?_
  refine x_iconst hx hb dX3_init_62 ?_
  refine x_icmp_gt (tgt := 81) hx hb (by decide) (by decide) dX3_init_63 (by decide) (fun h9 => absurd h9 (by decide)) (fun _ => ?_)
  refine x_aload_n hx hb hl 1 rfl dX3_init_66 rfl ?_
  refine b_get (j := 3) (v := .ref (h0 + 156 + 62)) hx hb hown hT hE hB cls_X3 0 (by decide) rfl (by decide) rfl wq453 dX3_init_67 ?_
  refine x_iload_n hx hb hl 0 rfl dX3_init_70 rfl ?_
  refine b_aald (r := h0 + 156 + 63) hx hb hE hB 62 (by decide) rfl (by decide) (by decide) rfl dX3_init_71 ?_
  refine x_iconst hx hb dX3_init_72 ?_
  refine x_iload_n hx hb hl 0 rfl dX3_init_73 rfl ?_
  refine b_iast hx hb hE hB 63 (by decide) rfl (by decide) (by decide) dX3_init_74 (fun H locs hB => ?_)
  refine x_iinc (lv' := [(3, .int (xJ 1)), (0, .ref (h0 + 156)), (1, .ref (h0 + 128)), (2, .ref (h0 + 136))]) hx hb hl 0 rfl dX3_init_75 (by decide) rfl (fun ls hl => ?_)
  refine lv_goto (tgt := 61) hx hb dX3_init_78 (by decide) ?_
  refine x_iload_n hx hb hl 0 rfl dX3_init_61 rfl ?_
  refine x_iconst hx hb dX3_init_62 ?_
  refine x_icmp_gt (tgt := 81) hx hb (by decide) (by decide) dX3_init_63 (by decide) (fun h9 => absurd h9 (by decide)) (fun _ => ?_)
  refine x_aload_n hx hb hl 1 rfl dX3_init_66 rfl ?_
  refine b_get (j := 3) (v := .ref (h0 + 156 + 62)) hx hb hown hT hE hB cls_X3 0 (by decide) rfl (by decide) rfl wq453 dX3_init_67 ?_
  refine x_iload_n hx hb hl 0 rfl dX3_init_70 rfl ?_
  refine b_aald (r := h0 + 156 + 64) hx hb hE hB 62 (by decide) rfl (by decide) (by decide) rfl dX3_init_71 ?_
  refine x_iconst hx hb dX3_init_72 ?_
  refine x_iload_n hx hb hl 0 rfl dX3_init_73 rfl ?_
  refine b_iast hx hb hE hB 64 (by decide) rfl (by decide) (by decide) dX3_init_74 (fun H locs hB => ?_)
  refine x_iinc (lv' := [(3, .int (xJ 2)), (0, .ref (h0 + 156)), (1, .ref (h0 + 128)), (2, .ref (h0 + 136))]) hx hb hl 0 rfl dX3_init_75 (by decide) rfl (fun ls hl => ?_)
  refine lv_goto (tgt := 61) hx hb dX3_init_78 (by decide) ?_
  refine x_iload_n hx hb hl 0 rfl dX3_init_61 rfl ?_
  refine x_iconst hx hb dX3_init_62 ?_
  refine x_icmp_gt (tgt := 81) hx hb (by decide) (by decide) dX3_init_63 (by decide) (fun h9 => absurd h9 (by decide)) (fun _ => ?_)
  refine x_aload_n hx hb hl 1 rfl dX3_init_66 rfl ?_
  refine b_get (j := 3) (v := .ref (h0 + 156 + 62)) hx hb hown hT hE hB cls_X3 0 (by decide) rfl (by decide) rfl wq453 dX3_init_67 ?_
  refine x_iload_n hx hb hl 0 rfl dX3_init_70 rfl ?_
  refine b_aald (r := h0 + 156 + 65) hx hb hE hB 62 (by decide) rfl (by decide) (by decide) rfl dX3_init_71 ?_
  refine x_iconst hx hb dX3_init_72 ?_
  refine x_iload_n hx hb hl 0 rfl dX3_init_73 rfl ?_
  refine b_iast hx hb hE hB 65 (by decide) rfl (by decide) (by decide) dX3_init_74 (fun H locs hB => ?_)
  refine x_iinc (lv' := [(3, .int (xJ 3)), (0, .ref (h0 + 156)), (1, .ref (h0 + 128)), (2, .ref (h0 + 136))]) hx hb hl 0 rfl dX3_init_75 (by decide) rfl (fun ls hl => ?_)
  refine lv_goto (tgt := 61) hx hb dX3_init_78 (by decide) ?_
  refine x_iload_n hx hb hl 0 rfl dX3_init_61 rfl ?_
  refine x_iconst hx hb dX3_init_62 ?_
  refine x_icmp_gt (tgt := 81) hx hb (by decide) (by decide) dX3_init_63 (by decide) (fun h9 => absurd h9 (by decide)) (fun _ => ?_)
  refine x_aload_n hx hb hl 1 rfl dX3_init_66 rfl ?_
  refine b_get (j := 3) (v := .ref (h0 + 156 + 62)) hx hb hown hT hE hB cls_X3 0 (by decide) rfl (by decide) rfl wq453 dX3_init_67 ?_
  refine x_iload_n hx hb hl 0 rfl dX3_init_70 rfl ?_
  refine b_aald (r := h0 + 156 + 66) hx hb hE hB 62 (by decide) rfl (by decide) (by decide) rfl dX3_init_71 ?_
  refine x_iconst hx hb dX3_init_72 ?_
  refine x_iload_n hx hb hl 0 rfl dX3_init_73 rfl ?_
  refine b_iast hx hb hE hB 66 (by decide) rfl (by decide) (by decide) dX3_init_74 (fun H locs hB => ?_)
  refine x_iinc (lv' := [(3, .int (xJ 4)), (0, .ref (h0 + 156)), (1, .ref (h0 + 128)), (2, .ref (h0 + 136))]) hx hb hl 0 rfl dX3_init_75 (by decide) rfl (fun ls hl => ?_)
  refine lv_goto (tgt := 61) hx hb dX3_init_78 (by decide) ?_
  refine x_iload_n hx hb hl 0 rfl dX3_init_61 rfl ?_
  refine x_iconst hx hb dX3_init_62 ?_
  refine x_icmp_gt (tgt := 81) hx hb (by decide) (by decide) dX3_init_63 (by decide) (fun h9 => absurd h9 (by decide)) (fun _ => ?_)
  refine x_aload_n hx hb hl 1 rfl dX3_init_66 rfl ?_
  refine b_get (j := 3) (v := .ref (h0 + 156 + 62)) hx hb hown hT hE hB cls_X3 0 (by decide) rfl (by decide) rfl wq453 dX3_init_67 ?_
  refine x_iload_n hx hb hl 0 rfl dX3_init_70 rfl ?_
  refine b_aald (r := h0 + 156 + 67) hx hb hE hB 62 (by decide) rfl (by decide) (by decide) rfl dX3_init_71 ?_
  refine x_iconst hx hb dX3_init_72 ?_
  refine x_iload_n hx hb hl 0 rfl dX3_init_73 rfl ?_
  refine b_iast hx hb hE hB 67 (by decide) rfl (by decide) (by decide) dX3_init_74 (fun H locs hB => ?_)
  refine x_iinc (lv' := [(3, .int (xJ 5)), (0, .ref (h0 + 156)), (1, .ref (h0 + 128)), (2, .ref (h0 + 136))]) hx hb hl 0 rfl dX3_init_75 (by decide) rfl (fun ls hl => ?_)
  refine lv_goto (tgt := 61) hx hb dX3_init_78 (by decide) ?_
  refine x_iload_n hx hb hl 0 rfl dX3_init_61 rfl ?_
  refine x_iconst hx hb dX3_init_62 ?_
  refine x_icmp_gt (tgt := 81) hx hb (by decide) (by decide) dX3_init_63 (by decide) (fun _ => ?_) (fun h9 => absurd h9 (by decide))
  refine x_aload_n hx hb hl 1 rfl dX3_init_81 rfl ?_
  refine x_iconst hx hb dX3_init_82 ?_
  refine b_newaI (N := 5) hx hb hT hE hB wq217 rfl (by decide) (by decide) (by decide) dX3_init_83 (fun H hB => ?_)
  have hB := bB_n (n1 := 69) rfl hB
  refine b_putF (j := 4) hx hb hown hT hE hB cls_X3 0 (by decide) rfl (by decide) (Nat.le_of_ble_eq_true rfl) rfl wq454 rfl hnm rfl rfl rfl dX3_init_85 (fun H locs hB => ?_)
  refine x_aload_n hx hb hl 1 rfl dX3_init_88 rfl ?_
  refine x_iconst hx hb dX3_init_89 ?_
  refine b_newaI (N := 5) hx hb hT hE hB wq217 rfl (by decide) (by decide) (by decide) dX3_init_90 (fun H hB => ?_)
  have hB := bB_n (n1 := 70) rfl hB
  refine b_putF (j := 5) hx hb hown hT hE hB cls_X3 0 (by decide) rfl (by decide) (Nat.le_of_ble_eq_true rfl) rfl wq455 rfl hnm rfl rfl rfl dX3_init_92 (fun H locs hB => ?_)
  refine x_aload_n hx hb hl 1 rfl dX3_init_95 rfl ?_
  refine x_bipush hx hb dX3_init_96 (by decide) ?_
  refine b_put (j := 6) hx hb hown hT hE hB cls_X3 0 (by decide) rfl (by decide) (Nat.le_of_ble_eq_true rfl) rfl wq457 rfl rfl rfl dX3_init_98 (fun H locs hB => ?_)
  refine x_aload_n hx hb hl 1 rfl dX3_init_101 rfl ?_
  refine x_bipush hx hb dX3_init_102 (by decide) ?_
  refine b_newaI (N := 100) hx hb hT hE hB wq217 rfl (by decide) (by decide) (by decide) dX3_init_104 (fun H hB => ?_)
  have hB := bB_n (n1 := 71) rfl hB
  refine b_putF (j := 7) hx hb hown hT hE hB cls_X3 0 (by decide) rfl (by decide) (Nat.le_of_ble_eq_true rfl) rfl wq459 rfl hnm rfl rfl rfl dX3_init_106 (fun H locs hB => ?_)
  refine x_aload_n hx hb hl 1 rfl dX3_init_109 rfl ?_
  refine x_bipush hx hb dX3_init_110 (by decide) ?_
  refine x_bipush hx hb dX3_init_112 (by decide) ?_
  refine b_mna (N := 31) (K := 100) hx hb hown hT hE hB wq449 hO wq217 rfl rfl (by decide) (by decide) (by decide) dX3_init_114 (fun H hB => ?_)
  have hB := bB_n (n1 := 103) rfl hB
  have hB := bB_arq (k := 71) (f' := fun j => some (h0 + xrow xI 227 j)) hB rfl (fun j hj => by rw [if_pos hj]; show some _ = some (h0 + (228 + j)); congr 1; omega)
  refine b_putF (j := 8) hx hb hown hT hE hB cls_X3 0 (by decide) rfl (by decide) (Nat.le_of_ble_eq_true rfl) rfl wq461 rfl hnm rfl rfl rfl dX3_init_118 (fun H locs hB => ?_)
  refine x_aload_n hx hb hl 1 rfl dX3_init_121 rfl ?_
  refine x_bipush hx hb dX3_init_122 (by decide) ?_
  refine b_newaI (N := 100) hx hb hT hE hB wq217 rfl (by decide) (by decide) (by decide) dX3_init_124 (fun H hB => ?_)
  have hB := bB_n (n1 := 104) rfl hB
  refine b_putF (j := 9) hx hb hown hT hE hB cls_X3 0 (by decide) rfl (by decide) (Nat.le_of_ble_eq_true rfl) rfl wq462 rfl hnm rfl rfl rfl dX3_init_126 (fun H locs hB => ?_)
  refine x_aload_n hx hb hl 1 rfl dX3_init_129 rfl ?_
  refine x_bipush hx hb dX3_init_130 (by decide) ?_
  refine b_newaI (N := 100) hx hb hT hE hB wq217 rfl (by decide) (by decide) (by decide) dX3_init_132 (fun H hB => ?_)
  have hB := bB_n (n1 := 105) rfl hB
  refine b_putF (j := 10) hx hb hown hT hE hB cls_X3 0 (by decide) rfl (by decide) (Nat.le_of_ble_eq_true rfl) rfl wq463 rfl hnm rfl rfl rfl dX3_init_134 (fun H locs hB => ?_)
  have hB := bB_arq (k := 1) (f' := fun j => some (h0 + xrow xI 157 j)) hB rfl (by
      refine allS ?_ rfl
      refine allS ?_ rfl
      refine allS ?_ rfl
      refine allS ?_ rfl
      refine allS ?_ rfl
      refine allS ?_ rfl
      exact allZ)
  have hB := bB_arr (k := 63) (f' := fun j => xJ (xI 219 j)) hB rfl (by decide +kernel)
  have hB := bB_arr (k := 64) (f' := fun j => xJ (xI 220 j)) hB rfl (by decide +kernel)
  have hB := bB_arr (k := 65) (f' := fun j => xJ (xI 221 j)) hB rfl (by decide +kernel)
  have hB := bB_arr (k := 66) (f' := fun j => xJ (xI 222 j)) hB rfl (by decide +kernel)
  have hB := bB_arr (k := 67) (f' := fun j => xJ (xI 223 j)) hB rfl (by decide +kernel)
  subst eQ
  refine b_vret hx hb hr hlk hB ?_ rfl rfl dX3_init_137
  refine allS ?_ rfl
  refine allS ?_ rfl
  refine allS ?_ rfl
  refine allS ?_ rfl
  refine allS ?_ rfl
  refine allS ?_ rfl
  refine allS ?_ rfl
  refine allS ?_ rfl
  refine allS ?_ rfl
  refine allS ?_ rfl
  refine allS ?_ rfl
  refine allS ?_ rfl
  refine allS ?_ rfl
  refine allS ?_ rfl
  refine allS ?_ rfl
  refine allS ?_ rfl
  refine allS ?_ rfl
  refine allS ?_ rfl
  refine allS ?_ rfl
  refine allS ?_ rfl
  refine allS ?_ rfl
  refine allS ?_ rfl
  refine allS ?_ rfl
  refine allS ?_ rfl
  refine allS ?_ rfl
  refine allS ?_ rfl
  refine allS ?_ rfl
  refine allS ?_ rfl
  refine allS ?_ rfl
  refine allS ?_ rfl
  refine allS ?_ rfl
  refine allS ?_ rfl
  refine allS ?_ rfl
  refine allS ?_ rfl
  refine allS ?_ rfl
  refine allS ?_ rfl
  refine allS ?_ rfl
  refine allS ?_ rfl
  refine allS ?_ rfl
  refine allS ?_ rfl
  refine allS ?_ rfl
  refine allS ?_ rfl
  refine allS ?_ rfl
  refine allS ?_ rfl
  refine allS ?_ rfl
  refine allS ?_ rfl
  refine allS ?_ rfl
  refine allS ?_ rfl
  refine allS ?_ rfl
  refine allS ?_ rfl
  refine allS ?_ rfl
  refine allS ?_ rfl
  refine allS ?_ rfl
  refine allS ?_ rfl
  refine allS ?_ rfl
  refine allS ?_ rfl
  refine allS ?_ rfl
  refine allS ?_ rfl
  refine allS ?_ rfl
  refine allS ?_ rfl
  refine allS ?_ rfl
  refine allS ?_ rfl
  refine allS ?_ rfl
  refine allS ?_ rfl
  refine allS ?_ rfl
  refine allS ?_ rfl
  refine allS ?_ rfl
  refine allS ?_ rfl
  refine allS ?_ rfl
  refine allS ?_ rfl
  refine allS ?_ rfl
  refine allS ?_ rfl
  refine allS ?_ rfl
  refine allS ?_ rfl
  refine allS ?_ rfl
  refine allS ?_ rfl
  refine allS ?_ rfl
  refine allS ?_ rfl
  refine allS ?_ rfl
  refine allS ?_ rfl
  refine allS ?_ rfl
  refine allS ?_ rfl
  refine allS ?_ rfl
  refine allS ?_ rfl
  refine allS ?_ rfl
  refine allS ?_ rfl
  refine allS ?_ rfl
  refine allS ?_ rfl
  refine allS ?_ rfl
  refine allS ?_ rfl
  refine allS ?_ rfl
  refine allS ?_ rfl
  refine allS ?_ rfl
  refine allS ?_ rfl
  refine allS ?_ rfl
  refine allS ?_ rfl
  refine allS ?_ rfl
  refine allS ?_ rfl
  refine allS ?_ rfl
  refine allS ?_ rfl
  refine allS ?_ rfl
  refine allS ?_ rfl
  refine allS ?_ rfl
  refine allS ?_ rfl
  refine allS ?_ rfl
  exact allZ
theorem b_X1_261 (l : Launch) (D : va_G) (g : xG) (T : Nat × Nat × Nat) (h0 : Nat) : Met l yX1_init (xws yX1_init cX1_init 2 none) { frames := 1, cells := 5, slots := 230, locals := 20 } (bP [.ref (h0 + 261), .ref (h0 + 128)] D g T (h0 + 261) (.inr (1, fz_X1))) (bQ D (h0 + 261) 6 (fun k => xcel h0 g xI (261 + k))) 5 230 (xA (h0 + 261)) := by
  refine b_met (by decide) (Nat.le_of_ble_eq_true rfl) ?_
  intro p e s m args below meth c hx hb hr hml hown hT hlk hnm hE hO hB ls hl
  have hl : lv_has ls 2 [(0, .ref (h0 + 261)), (1, .ref (h0 + 128))] := hl
  obtain ⟨Q, eQ⟩ : ∃ Q, Q = MQ below (bQ D (h0 + 261) 6 (fun k => xcel h0 g xI (261 + k))) args s 5 230 (xA (h0 + 261)) := ⟨_, rfl⟩
  rw [← eQ]
  generalize hHe : ([] : List Loc) = locs at hB ⊢
  obtain ⟨H, eH⟩ : ∃ H, H = s.heap := ⟨_, rfl⟩
  rw [← eH] at hB ⊢
  refine x_aload_n hx hb hl 0 rfl dX1_init_0 rfl ?_
  refine b_obj hx hb (hml.trans hl.1.symm) hown hT bo492 bo_inst bo_code (by decide) (Nat.le_of_ble_eq_true rfl) dX1_init_1 ?_
  refine x_aload_n hx hb hl 0 rfl dX1_init_4 rfl ?_
  refine x_aload_n hx hb hl 1 rfl dX1_init_5 rfl ?_
  refine b_putF (j := 0) hx hb hown hT hE hB cls_X1 0 (by decide) rfl (by decide) (Nat.le_of_ble_eq_true rfl) rfl wq493 rfl hnm rfl rfl rfl dX1_init_6 (fun H locs hB => ?_)
  refine x_aload_n hx hb hl 0 rfl dX1_init_9 rfl ?_
  refine x_bipush hx hb dX1_init_10 (by decide) ?_
  refine b_newaI (N := 10) hx hb hT hE hB wq217 rfl (by decide) (by decide) (by decide) dX1_init_12 (fun H hB => ?_)
  have hB := bB_n (n1 := 2) rfl hB
  refine b_putF (j := 1) hx hb hown hT hE hB cls_X1 0 (by decide) rfl (by decide) (Nat.le_of_ble_eq_true rfl) rfl wq494 rfl hnm rfl rfl rfl dX1_init_14 (fun H locs hB => ?_)
  refine x_aload_n hx hb hl 0 rfl dX1_init_17 rfl ?_
  refine x_bipush hx hb dX1_init_18 (by decide) ?_
  refine b_newaI (N := 10) hx hb hT hE hB wq217 rfl (by decide) (by decide) (by decide) dX1_init_20 (fun H hB => ?_)
  have hB := bB_n (n1 := 3) rfl hB
  refine b_putF (j := 2) hx hb hown hT hE hB cls_X1 0 (by decide) rfl (by decide) (Nat.le_of_ble_eq_true rfl) rfl wq495 rfl hnm rfl rfl rfl dX1_init_22 (fun H locs hB => ?_)
  refine x_aload_n hx hb hl 0 rfl dX1_init_25 rfl ?_
  refine x_bipush hx hb dX1_init_26 (by decide) ?_
  refine b_newaI (N := 100) hx hb hT hE hB wq217 rfl (by decide) (by decide) (by decide) dX1_init_28 (fun H hB => ?_)
  have hB := bB_n (n1 := 4) rfl hB
  refine b_putF (j := 3) hx hb hown hT hE hB cls_X1 0 (by decide) rfl (by decide) (Nat.le_of_ble_eq_true rfl) rfl wq496 rfl hnm rfl rfl rfl dX1_init_30 (fun H locs hB => ?_)
  refine x_aload_n hx hb hl 0 rfl dX1_init_33 rfl ?_
  refine x_bipush hx hb dX1_init_34 (by decide) ?_
  refine b_newaI (N := 100) hx hb hT hE hB wq217 rfl (by decide) (by decide) (by decide) dX1_init_36 (fun H hB => ?_)
  have hB := bB_n (n1 := 5) rfl hB
  refine b_putF (j := 4) hx hb hown hT hE hB cls_X1 0 (by decide) rfl (by decide) (Nat.le_of_ble_eq_true rfl) rfl wq497 rfl hnm rfl rfl rfl dX1_init_38 (fun H locs hB => ?_)
  refine x_aload_n hx hb hl 0 rfl dX1_init_41 rfl ?_
  refine x_bipush hx hb dX1_init_42 (by decide) ?_
  refine b_newaI (N := 10) hx hb hT hE hB wq217 rfl (by decide) (by decide) (by decide) dX1_init_44 (fun H hB => ?_)
  have hB := bB_n (n1 := 6) rfl hB
  refine b_putF (j := 5) hx hb hown hT hE hB cls_X1 0 (by decide) rfl (by decide) (Nat.le_of_ble_eq_true rfl) rfl wq498 rfl hnm rfl rfl rfl dX1_init_46 (fun H locs hB => ?_)
  subst eQ
  refine b_vret hx hb hr hlk hB ?_ rfl rfl dX1_init_49
  refine allS ?_ rfl
  refine allS ?_ rfl
  refine allS ?_ rfl
  refine allS ?_ rfl
  refine allS ?_ rfl
  refine allS ?_ rfl
  exact allZ
theorem b_X10_0 (l : Launch) (D : va_G) (g : xG) (T : Nat × Nat × Nat) (h0 : Nat) : Met l yX10_init (xws yX10_init cX10_init 1 none) { frames := 3, cells := 267, slots := 16801, locals := 64 } (bP [.ref (h0 + 0)] D g T (h0 + 0) (.inr (10, fz_X10))) (bQ D (h0 + 0) 268 (fun k => xcel h0 g xI (0 + k))) 267 16801 (xA (h0 + 0)) := by
  refine b_met (by decide) (Nat.le_of_ble_eq_true rfl) ?_
  intro p e s m args below meth c hx hb hr hml hown hT hlk hnm hE hO hB ls hl
  have hl : lv_has ls 1 [(0, .ref (h0 + 0))] := hl
  obtain ⟨Q, eQ⟩ : ∃ Q, Q = MQ below (bQ D (h0 + 0) 268 (fun k => xcel h0 g xI (0 + k))) args s 267 16801 (xA (h0 + 0)) := ⟨_, rfl⟩
  rw [← eQ]
  generalize hHe : ([] : List Loc) = locs at hB ⊢
  obtain ⟨H, eH⟩ : ∃ H, H = s.heap := ⟨_, rfl⟩
  rw [← eH] at hB ⊢
  refine x_aload_n hx hb hl 0 rfl dX10_init_0 rfl ?_
  refine b_obj hx hb (hml.trans hl.1.symm) hown hT bo187 bo_inst bo_code (by decide) (Nat.le_of_ble_eq_true rfl) dX10_init_1 ?_
  refine x_aload_n hx hb hl 0 rfl dX10_init_4 rfl ?_
  refine b_new hx hb hown hT hE hB cls_X8 bz_X8 wq190 wq191 wq169 (by decide) (by decide) dX10_init_5 (fun H hB => ?_)
  have hB := bB_n (n1 := 2) rfl hB
  refine lv_dup hx hb dX10_init_8 rfl ?_
  refine b_go (b := h0 + 0) (n := 1) (b_runN (b := h0 + 0) (n := 1) (As := []) hx hb hml hown hT hE hO hB rfl hl.1 cf_X8_init wq193 rfl wn192 (b_X8_1 l D g T h0) ⟨rfl, rfl, ⟨by decide, by decide⟩, ⟨by decide, by decide⟩⟩ rfl rfl (Nat.le_of_ble_eq_true rfl) dX10_init_9) hB (fun H locs hB => ?_)
  have hB := bB_n (n1 := 3) rfl hB
  refine b_putF (j := 0) hx hb hown hT hE hB cls_X10 0 (by decide) rfl (by decide) (Nat.le_of_ble_eq_true rfl) rfl wq512 rfl hnm rfl rfl rfl dX10_init_12 (fun H locs hB => ?_)
  refine x_aload_n hx hb hl 0 rfl dX10_init_15 rfl ?_
  refine b_new hx hb hown hT hE hB cls_X6 bz_X6 wq218 wq219 wq170 (by decide) (by decide) dX10_init_16 (fun H hB => ?_)
  have hB := bB_n (n1 := 4) rfl hB
  refine lv_dup hx hb dX10_init_19 rfl ?_
  refine b_go (b := h0 + 0) (n := 3) (b_runN (b := h0 + 0) (n := 3) (As := []) hx hb hml hown hT hE hO hB rfl hl.1 cf_X6_init wq221 rfl wn220 (b_X6_3 l D g T h0) ⟨rfl, rfl, ⟨by decide, by decide⟩, ⟨by decide, by decide⟩⟩ rfl rfl (Nat.le_of_ble_eq_true rfl) dX10_init_20) hB (fun H locs hB => ?_)
  have hB := bB_n (n1 := 109) rfl hB
  refine b_putF (j := 1) hx hb hown hT hE hB cls_X10 0 (by decide) rfl (by decide) (Nat.le_of_ble_eq_true rfl) rfl wq513 rfl hnm rfl rfl rfl dX10_init_23 (fun H locs hB => ?_)
  refine x_aload_n hx hb hl 0 rfl dX10_init_26 rfl ?_
  refine b_new hx hb hown hT hE hB cls_X4 bz_X4 wq243 wq244 wq171 (by decide) (by decide) dX10_init_27 (fun H hB => ?_)
  have hB := bB_n (n1 := 110) rfl hB
  refine lv_dup hx hb dX10_init_30 rfl ?_
  refine b_go (b := h0 + 0) (n := 109) (b_runN (b := h0 + 0) (n := 109) (As := []) hx hb hml hown hT hE hO hB rfl hl.1 cf_X4_init wq246 rfl wn245 (b_X4_109 l D g T h0) ⟨rfl, rfl, ⟨by decide, by decide⟩, ⟨by decide, by decide⟩⟩ rfl rfl (Nat.le_of_ble_eq_true rfl) dX10_init_31) hB (fun H locs hB => ?_)
  have hB := bB_n (n1 := 117) rfl hB
  refine b_putF (j := 2) hx hb hown hT hE hB cls_X10 0 (by decide) rfl (by decide) (Nat.le_of_ble_eq_true rfl) rfl wq514 rfl hnm rfl rfl rfl dX10_init_34 (fun H locs hB => ?_)
  refine x_aload_n hx hb hl 0 rfl dX10_init_37 rfl ?_
  refine b_new hx hb hown hT hE hB cls_X5 bz_X5 wq285 wq286 wq172 (by decide) (by decide) dX10_init_38 (fun H hB => ?_)
  have hB := bB_n (n1 := 118) rfl hB
  refine lv_dup hx hb dX10_init_41 rfl ?_
  refine x_aload_n hx hb hl 0 rfl dX10_init_42 rfl ?_
  refine b_get (j := 0) (v := .ref (h0 + 0 + 1)) hx hb hown hT hE hB cls_X10 0 (by decide) rfl (by decide) rfl wq512 dX10_init_43 ?_
  refine b_go (b := h0 + 0) (n := 117) (b_runN (b := h0 + 0) (n := 117) (As := [.ref (h0 + 0 + 1)]) hx hb hml hown hT hE hO hB rfl hl.1 cf_X5_init wq288 rfl wn287 (b_X5_117 l D g T h0) ⟨rfl, rfl, ⟨by decide, by decide⟩, ⟨by decide, by decide⟩⟩ rfl rfl (Nat.le_of_ble_eq_true rfl) dX10_init_46) hB (fun H locs hB => ?_)
  have hB := bB_n (n1 := 126) rfl hB
  refine b_putF (j := 3) hx hb hown hT hE hB cls_X10 0 (by decide) rfl (by decide) (Nat.le_of_ble_eq_true rfl) rfl wq515 rfl hnm rfl rfl rfl dX10_init_49 (fun H locs hB => ?_)
  refine x_aload_n hx hb hl 0 rfl dX10_init_52 rfl ?_
  refine b_new hx hb hown hT hE hB cls_X9 bz_X9 wq301 wq302 wq173 (by decide) (by decide) dX10_init_53 (fun H hB => ?_)
  have hB := bB_n (n1 := 127) rfl hB
  refine lv_dup hx hb dX10_init_56 rfl ?_
  refine x_aload_n hx hb hl 0 rfl dX10_init_57 rfl ?_
  refine b_get (j := 0) (v := .ref (h0 + 0 + 1)) hx hb hown hT hE hB cls_X10 0 (by decide) rfl (by decide) rfl wq512 dX10_init_58 ?_
  refine b_go (b := h0 + 0) (n := 126) (b_runN (b := h0 + 0) (n := 126) (As := [.ref (h0 + 0 + 1)]) hx hb hml hown hT hE hO hB rfl hl.1 cf_X9_init wq304 rfl wn303 (b_X9_126 l D g T h0) ⟨rfl, rfl, ⟨by decide, by decide⟩, ⟨by decide, by decide⟩⟩ rfl rfl (Nat.le_of_ble_eq_true rfl) dX10_init_61) hB (fun H locs hB => ?_)
  have hB := bB_n (n1 := 128) rfl hB
  refine b_putF (j := 4) hx hb hown hT hE hB cls_X10 0 (by decide) rfl (by decide) (Nat.le_of_ble_eq_true rfl) rfl wq516 rfl hnm rfl rfl rfl dX10_init_64 (fun H locs hB => ?_)
  refine x_aload_n hx hb hl 0 rfl dX10_init_67 rfl ?_
  refine b_new hx hb hown hT hE hB cls_X0 bz_X0 wq318 wq319 wq174 (by decide) (by decide) dX10_init_68 (fun H hB => ?_)
  have hB := bB_n (n1 := 129) rfl hB
  refine lv_dup hx hb dX10_init_71 rfl ?_
  refine x_aload_n hx hb hl 0 rfl dX10_init_72 rfl ?_
  refine b_get (j := 1) (v := .ref (h0 + 0 + 3)) hx hb hown hT hE hB cls_X10 0 (by decide) rfl (by decide) rfl wq513 dX10_init_73 ?_
  refine x_aload_n hx hb hl 0 rfl dX10_init_76 rfl ?_
  refine b_get (j := 2) (v := .ref (h0 + 0 + 109)) hx hb hown hT hE hB cls_X10 0 (by decide) rfl (by decide) rfl wq514 dX10_init_77 ?_
  refine b_go (b := h0 + 0) (n := 128) (b_runN (b := h0 + 0) (n := 128) (As := [.ref (h0 + 0 + 3), .ref (h0 + 0 + 109)]) hx hb hml hown hT hE hO hB rfl hl.1 cf_X0_init wq321 rfl wn320 (b_X0_128 l D g T h0) ⟨rfl, rfl, ⟨by decide, by decide⟩, ⟨by decide, by decide⟩⟩ rfl rfl (Nat.le_of_ble_eq_true rfl) dX10_init_80) hB (fun H locs hB => ?_)
  have hB := bB_n (n1 := 136) rfl hB
  refine b_putF (j := 5) hx hb hown hT hE hB cls_X10 0 (by decide) rfl (by decide) (Nat.le_of_ble_eq_true rfl) rfl wq517 rfl hnm rfl rfl rfl dX10_init_83 (fun H locs hB => ?_)
  refine x_aload_n hx hb hl 0 rfl dX10_init_86 rfl ?_
  refine b_new hx hb hown hT hE hB cls_X2 bz_X2 wq376 wq377 wq176 (by decide) (by decide) dX10_init_87 (fun H hB => ?_)
  have hB := bB_n (n1 := 137) rfl hB
  refine lv_dup hx hb dX10_init_90 rfl ?_
  refine b_go (b := h0 + 0) (n := 136) (b_runN (b := h0 + 0) (n := 136) (As := []) hx hb hml hown hT hE hO hB rfl hl.1 cf_X2_init wq379 rfl wn378 (b_X2_136 l D g T h0) ⟨rfl, rfl, ⟨by decide, by decide⟩, ⟨by decide, by decide⟩⟩ rfl rfl (Nat.le_of_ble_eq_true rfl) dX10_init_91) hB (fun H locs hB => ?_)
  have hB := bB_n (n1 := 146) rfl hB
  refine b_putF (j := 8) hx hb hown hT hE hB cls_X10 0 (by decide) rfl (by decide) (Nat.le_of_ble_eq_true rfl) rfl wq520 rfl hnm rfl rfl rfl dX10_init_94 (fun H locs hB => ?_)
  refine x_aload_n hx hb hl 0 rfl dX10_init_97 rfl ?_
  refine b_new hx hb hown hT hE hB cls_X2 bz_X2 wq376 wq377 wq176 (by decide) (by decide) dX10_init_98 (fun H hB => ?_)
  have hB := bB_n (n1 := 147) rfl hB
  refine lv_dup hx hb dX10_init_101 rfl ?_
  refine b_go (b := h0 + 0) (n := 146) (b_runN (b := h0 + 0) (n := 146) (As := []) hx hb hml hown hT hE hO hB rfl hl.1 cf_X2_init wq379 rfl wn378 (b_X2_146 l D g T h0) ⟨rfl, rfl, ⟨by decide, by decide⟩, ⟨by decide, by decide⟩⟩ rfl rfl (Nat.le_of_ble_eq_true rfl) dX10_init_102) hB (fun H locs hB => ?_)
  have hB := bB_n (n1 := 156) rfl hB
  refine b_putF (j := 9) hx hb hown hT hE hB cls_X10 0 (by decide) rfl (by decide) (Nat.le_of_ble_eq_true rfl) rfl wq521 rfl hnm rfl rfl rfl dX10_init_105 (fun H locs hB => ?_)
  refine x_aload_n hx hb hl 0 rfl dX10_init_108 rfl ?_
  refine b_new hx hb hown hT hE hB cls_X3 bz_X3 wq440 wq441 wq177 (by decide) (by decide) dX10_init_109 (fun H hB => ?_)
  have hB := bB_n (n1 := 157) rfl hB
  refine lv_dup hx hb dX10_init_112 rfl ?_
  refine x_aload_n hx hb hl 0 rfl dX10_init_113 rfl ?_
  refine b_get (j := 5) (v := .ref (h0 + 0 + 128)) hx hb hown hT hE hB cls_X10 0 (by decide) rfl (by decide) rfl wq517 dX10_init_114 ?_
  refine x_aload_n hx hb hl 0 rfl dX10_init_117 rfl ?_
  refine b_get (j := 8) (v := .ref (h0 + 0 + 136)) hx hb hown hT hE hB cls_X10 0 (by decide) rfl (by decide) rfl wq520 dX10_init_118 ?_
  refine b_go (b := h0 + 0) (n := 156) (b_runN (b := h0 + 0) (n := 156) (As := [.ref (h0 + 0 + 128), .ref (h0 + 0 + 136)]) hx hb hml hown hT hE hO hB rfl hl.1 cf_X3_init wq443 rfl wn442 (b_X3_156 l D g T h0) ⟨rfl, rfl, ⟨by decide, by decide⟩, ⟨by decide, by decide⟩⟩ rfl rfl (Nat.le_of_ble_eq_true rfl) dX10_init_121) hB (fun H locs hB => ?_)
  have hB := bB_n (n1 := 261) rfl hB
  refine b_putF (j := 6) hx hb hown hT hE hB cls_X10 0 (by decide) rfl (by decide) (Nat.le_of_ble_eq_true rfl) rfl wq518 rfl hnm rfl rfl rfl dX10_init_124 (fun H locs hB => ?_)
  refine x_aload_n hx hb hl 0 rfl dX10_init_127 rfl ?_
  refine b_new hx hb hown hT hE hB cls_X1 bz_X1 wq487 wq488 wq178 (by decide) (by decide) dX10_init_128 (fun H hB => ?_)
  have hB := bB_n (n1 := 262) rfl hB
  refine lv_dup hx hb dX10_init_131 rfl ?_
  refine x_aload_n hx hb hl 0 rfl dX10_init_132 rfl ?_
  refine b_get (j := 5) (v := .ref (h0 + 0 + 128)) hx hb hown hT hE hB cls_X10 0 (by decide) rfl (by decide) rfl wq517 dX10_init_133 ?_
  refine b_go (b := h0 + 0) (n := 261) (b_runN (b := h0 + 0) (n := 261) (As := [.ref (h0 + 0 + 128)]) hx hb hml hown hT hE hO hB rfl hl.1 cf_X1_init wq490 rfl wn489 (b_X1_261 l D g T h0) ⟨rfl, rfl, ⟨by decide, by decide⟩, ⟨by decide, by decide⟩⟩ rfl rfl (Nat.le_of_ble_eq_true rfl) dX10_init_136) hB (fun H locs hB => ?_)
  have hB := bB_n (n1 := 267) rfl hB
  refine b_putF (j := 7) hx hb hown hT hE hB cls_X10 0 (by decide) rfl (by decide) (Nat.le_of_ble_eq_true rfl) rfl wq519 rfl hnm rfl rfl rfl dX10_init_139 (fun H locs hB => ?_)
  refine x_aload_n hx hb hl 0 rfl dX10_init_142 rfl ?_
  refine x_bipush hx hb dX10_init_143 (by decide) ?_
  refine b_newaI (N := 8) hx hb hT hE hB wq217 rfl (by decide) (by decide) (by decide) dX10_init_145 (fun H hB => ?_)
  have hB := bB_n (n1 := 268) rfl hB
  refine b_putF (j := 10) hx hb hown hT hE hB cls_X10 0 (by decide) rfl (by decide) (Nat.le_of_ble_eq_true rfl) rfl wq522 rfl hnm rfl rfl rfl dX10_init_147 (fun H locs hB => ?_)
  refine x_aload_n hx hb hl 0 rfl dX10_init_150 rfl ?_
  refine x_iconst hx hb dX10_init_151 ?_
  refine b_put (j := 11) hx hb hown hT hE hB cls_X10 0 (by decide) rfl (by decide) (Nat.le_of_ble_eq_true rfl) rfl wq523 rfl rfl rfl dX10_init_152 (fun H locs hB => ?_)
  subst eQ
  refine b_vret hx hb hr hlk hB ?_ rfl rfl dX10_init_155
  refine allS ?_ rfl
  refine allS ?_ rfl
  refine allS ?_ rfl
  refine allS ?_ rfl
  refine allS ?_ rfl
  refine allS ?_ rfl
  refine allS ?_ rfl
  refine allS ?_ rfl
  refine allS ?_ rfl
  refine allS ?_ rfl
  refine allS ?_ rfl
  refine allS ?_ rfl
  refine allS ?_ rfl
  refine allS ?_ rfl
  refine allS ?_ rfl
  refine allS ?_ rfl
  refine allS ?_ rfl
  refine allS ?_ rfl
  refine allS ?_ rfl
  refine allS ?_ rfl
  refine allS ?_ rfl
  refine allS ?_ rfl
  refine allS ?_ rfl
  refine allS ?_ rfl
  refine allS ?_ rfl
  refine allS ?_ rfl
  refine allS ?_ rfl
  refine allS ?_ rfl
  refine allS ?_ rfl
  refine allS ?_ rfl
  refine allS ?_ rfl
  refine allS ?_ rfl
  refine allS ?_ rfl
  refine allS ?_ rfl
  refine allS ?_ rfl
  refine allS ?_ rfl
  refine allS ?_ rfl
  refine allS ?_ rfl
  refine allS ?_ rfl
  refine allS ?_ rfl
  refine allS ?_ rfl
  refine allS ?_ rfl
  refine allS ?_ rfl
  refine allS ?_ rfl
  refine allS ?_ rfl
  refine allS ?_ rfl
  refine allS ?_ rfl
  refine allS ?_ rfl
  refine allS ?_ rfl
  refine allS ?_ rfl
  refine allS ?_ rfl
  refine allS ?_ rfl
  refine allS ?_ rfl
  refine allS ?_ rfl
  refine allS ?_ rfl
  refine allS ?_ rfl
  refine allS ?_ rfl
  refine allS ?_ rfl
  refine allS ?_ rfl
  refine allS ?_ rfl
  refine allS ?_ rfl
  refine allS ?_ rfl
  refine allS ?_ rfl
  refine allS ?_ rfl
  refine allS ?_ rfl
  refine allS ?_ rfl
  refine allS ?_ rfl
  refine allS ?_ rfl
  refine allS ?_ rfl
  refine allS ?_ rfl
  refine allS ?_ rfl
  refine allS ?_ rfl
  refine allS ?_ rfl
  refine allS ?_ rfl
  refine allS ?_ rfl
  refine allS ?_ rfl
  refine allS ?_ rfl
  refine allS ?_ rfl
  refine allS ?_ rfl
  refine allS ?_ rfl
  refine allS ?_ rfl
  refine allS ?_ rfl
  refine allS ?_ rfl
  refine allS ?_ rfl
  refine allS ?_ rfl
  refine allS ?_ rfl
  refine allS ?_ rfl
  refine allS ?_ rfl
  refine allS ?_ rfl
  refine allS ?_ rfl
  refine allS ?_ rfl
  refine allS ?_ rfl
  refine allS ?_ rfl
  refine allS ?_ rfl
  refine allS ?_ rfl
  refine allS ?_ rfl
  refine allS ?_ rfl
  refine allS ?_ rfl
  refine allS ?_ rfl
  refine allS ?_ rfl
  refine allS ?_ rfl
  refine allS ?_ rfl
  refine allS ?_ rfl
  refine allS ?_ rfl
  refine allS ?_ rfl
  refine allS ?_ rfl
  refine allS ?_ rfl
  refine allS ?_ rfl
  refine allS ?_ rfl
  refine allS ?_ rfl
  refine allS ?_ rfl
  refine allS ?_ rfl
  refine allS ?_ rfl
  refine allS ?_ rfl
  refine allS ?_ rfl
  refine allS ?_ rfl
  refine allS ?_ rfl
  refine allS ?_ rfl
  refine allS ?_ rfl
  refine allS ?_ rfl
  refine allS ?_ rfl
  refine allS ?_ rfl
  refine allS ?_ rfl
  refine allS ?_ rfl
  refine allS ?_ rfl
  refine allS ?_ rfl
  refine allS ?_ rfl
  refine allS ?_ rfl
  refine allS ?_ rfl
  refine allS ?_ rfl
  refine allS ?_ rfl
  refine allS ?_ rfl
  refine allS ?_ rfl
  refine allS ?_ rfl
  refine allS ?_ rfl
  refine allS ?_ rfl
  refine allS ?_ rfl
  refine allS ?_ rfl
  refine allS ?_ rfl
  refine allS ?_ rfl
  refine allS ?_ rfl
  refine allS ?_ rfl
  refine allS ?_ rfl
  refine allS ?_ rfl
  refine allS ?_ rfl
  refine allS ?_ rfl
  refine allS ?_ rfl
  refine allS ?_ rfl
  refine allS ?_ rfl
  refine allS ?_ rfl
  refine allS ?_ rfl
  refine allS ?_ rfl
  refine allS ?_ rfl
  refine allS ?_ rfl
  refine allS ?_ rfl
  refine allS ?_ rfl
  refine allS ?_ rfl
  refine allS ?_ rfl
  refine allS ?_ rfl
  refine allS ?_ rfl
  refine allS ?_ rfl
  refine allS ?_ rfl
  refine allS ?_ rfl
  refine allS ?_ rfl
  refine allS ?_ rfl
  refine allS ?_ rfl
  refine allS ?_ rfl
  refine allS ?_ rfl
  refine allS ?_ rfl
  refine allS ?_ rfl
  refine allS ?_ rfl
  refine allS ?_ rfl
  refine allS ?_ rfl
  refine allS ?_ rfl
  refine allS ?_ rfl
  refine allS ?_ rfl
  refine allS ?_ rfl
  refine allS ?_ rfl
  refine allS ?_ rfl
  refine allS ?_ rfl
  refine allS ?_ rfl
  refine allS ?_ rfl
  refine allS ?_ rfl
  refine allS ?_ rfl
  refine allS ?_ rfl
  refine allS ?_ rfl
  refine allS ?_ rfl
  refine allS ?_ rfl
  refine allS ?_ rfl
  refine allS ?_ rfl
  refine allS ?_ rfl
  refine allS ?_ rfl
  refine allS ?_ rfl
  refine allS ?_ rfl
  refine allS ?_ rfl
  refine allS ?_ rfl
  refine allS ?_ rfl
  refine allS ?_ rfl
  refine allS ?_ rfl
  refine allS ?_ rfl
  refine allS ?_ rfl
  refine allS ?_ rfl
  refine allS ?_ rfl
  refine allS ?_ rfl
  refine allS ?_ rfl
  refine allS ?_ rfl
  refine allS ?_ rfl
  refine allS ?_ rfl
  refine allS ?_ rfl
  refine allS ?_ rfl
  refine allS ?_ rfl
  refine allS ?_ rfl
  refine allS ?_ rfl
  refine allS ?_ rfl
  refine allS ?_ rfl
  refine allS ?_ rfl
  refine allS ?_ rfl
  refine allS ?_ rfl
  refine allS ?_ rfl
  refine allS ?_ rfl
  refine allS ?_ rfl
  refine allS ?_ rfl
  refine allS ?_ rfl
  refine allS ?_ rfl
  refine allS ?_ rfl
  refine allS ?_ rfl
  refine allS ?_ rfl
  refine allS ?_ rfl
  refine allS ?_ rfl
  refine allS ?_ rfl
  refine allS ?_ rfl
  refine allS ?_ rfl
  refine allS ?_ rfl
  refine allS ?_ rfl
  refine allS ?_ rfl
  refine allS ?_ rfl
  refine allS ?_ rfl
  refine allS ?_ rfl
  refine allS ?_ rfl
  refine allS ?_ rfl
  refine allS ?_ rfl
  refine allS ?_ rfl
  refine allS ?_ rfl
  refine allS ?_ rfl
  refine allS ?_ rfl
  refine allS ?_ rfl
  refine allS ?_ rfl
  refine allS ?_ rfl
  refine allS ?_ rfl
  refine allS ?_ rfl
  refine allS ?_ rfl
  refine allS ?_ rfl
  refine allS ?_ rfl
  refine allS ?_ rfl
  refine allS ?_ rfl
  refine allS ?_ rfl
  refine allS ?_ rfl
  refine allS ?_ rfl
  refine allS ?_ rfl
  refine allS ?_ rfl
  refine allS ?_ rfl
  refine allS ?_ rfl
  refine allS ?_ rfl
  refine allS ?_ rfl
  refine allS ?_ rfl
  refine allS ?_ rfl
  refine allS ?_ rfl
  refine allS ?_ rfl
  exact allZ
