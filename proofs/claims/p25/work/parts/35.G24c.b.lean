set_option maxHeartbeats 4000000 in
set_option maxRecDepth 100000 in
theorem c_X11_felonM (l : Launch) (D : va_G) (g : xG) (T : Nat × Nat × Nat) (h0 : Nat) (s0 : xS) (hσ : xRR s0) (f : Int) (rf : xR f) (x : Int) (rx : xR x) (y : Int) (ry : xR y) (w : Int) (rw : xR w) (p0 : IMn s0) (p1 : IMk s0) (p2 : IMo s0) : Met l yX11_felon (xws yX11_felon cX11_felon 5 (some .boolean)) { frames := 2, cells := 0, slots := 0, locals := 43 } (xP [.ref (h0 + 268), .int (xJ f), .int (xJ x), .int (xJ y), .int (xJ w)] D g T h0 s0) (xQi D g h0 (fun r τ => xFr (fun k => k = 269) s0 τ ∧ (((IMn τ) ∧ (IMk τ) ∧ (IMo τ) ∧ (τ 269 37 = s0 269 37) ∧ True) ∧ ((r = 1 ∧ 0 ≤ f ∧ f ≤ 9 ∧ (0 ≤ x ∧ x < 10 ∧ 0 ≤ y ∧ y < 10 ∧ (s0 272 (10 * y + x) = 0 ∨ s0 272 (10 * y + x) = 2)) ∧ 0 ≤ w ∧ w ≤ 999) ∨ (r = 0 ∧ ¬ (0 ≤ f ∧ f ≤ 9 ∧ (0 ≤ x ∧ x < 10 ∧ 0 ≤ y ∧ y < 10 ∧ (s0 272 (10 * y + x) = 0 ∨ s0 272 (10 * y + x) = 2)) ∧ 0 ≤ w ∧ w ≤ 999)))))) 0 0 (xA h0) := by
  refine x_met hσ (by decide) (Nat.le_of_ble_eq_true rfl) ?_
  intro p e s m args below meth c hx hb hr hml hown hT hlk hnm hE hW ls hl
  have hl : lv_has ls 5 [(0, .ref (h0 + 268)), (1, .int (xJ f)), (2, .int (xJ x)), (3, .int (xJ y)), (4, .int (xJ w))] := hl
  obtain ⟨Q, eQ⟩ : ∃ Q, Q = MQ below (xQi D g h0 (fun r τ => xFr (fun k => k = 269) s0 τ ∧ (((IMn τ) ∧ (IMk τ) ∧ (IMo τ) ∧ (τ 269 37 = s0 269 37) ∧ True) ∧ ((r = 1 ∧ 0 ≤ f ∧ f ≤ 9 ∧ (0 ≤ x ∧ x < 10 ∧ 0 ≤ y ∧ y < 10 ∧ (s0 272 (10 * y + x) = 0 ∨ s0 272 (10 * y + x) = 2)) ∧ 0 ≤ w ∧ w ≤ 999) ∨ (r = 0 ∧ ¬ (0 ≤ f ∧ f ≤ 9 ∧ (0 ≤ x ∧ x < 10 ∧ 0 ≤ y ∧ y < 10 ∧ (s0 272 (10 * y + x) = 0 ∨ s0 272 (10 * y + x) = 2)) ∧ 0 ≤ w ∧ w ≤ 999)))))) args s 0 0 (xA h0) := ⟨_, rfl⟩
  rw [← eQ]
  generalize hHe : ([] : List Loc) = locs at hW ⊢
  obtain ⟨H, eH⟩ : ∃ H, H = s.heap := ⟨_, rfl⟩
  rw [← eH] at hW ⊢
  have hF : xFr (fun k => k = 269) s0 s0 := xFr.rf
  have k268_8 : s0 268 8 = s0 268 8 := rfl
  have k268_58 : s0 268 58 = s0 268 58 := rfl
  have k269_37 : s0 269 37 = s0 269 37 := rfl
  refine x_iload_n hx hb hl 1 rfl dX11_felon_0 rfl ?_
  refine x_bipush hx hb dX11_felon_1 (by decide) ?_
  refine x_goi (x_runS (As := [.int (xJ f), .int (xJ 10)]) hx hb hml hown hT hE hW hl.1 cf_X11_isFive wq1412 wq1411 (c_X11_isFive l D g T h0 s0 hW.2.1 f rf 10 (by decide)) ⟨rfl, rfl, ⟨by decide, by decide⟩, ⟨by decide, by decide⟩⟩ rfl rfl (Nat.le_of_ble_eq_true rfl) dX11_felon_3) hW (fun x1 s2 H locs rx1 hp3 hW => ?_)
  obtain ⟨es2, hp3⟩ := hp3
  subst es2
  have ghp3 := hp3
  refine x_if_eq (tgt := 42) hx hb rx1 dX11_felon_6 (by decide) (fun c4 => ?_) (fun c4 => ?_)
  · skip
    refine x_iconst hx hb dX11_felon_42 ?_
    rw [eQ]
    exact x_zret hx hb hr hlk hW (by omega) ⟨hF, ⟨p0, p1, p2, k269_37, trivial⟩, by omega⟩ dX11_felon_43
  refine x_iload_n hx hb hl 2 rfl dX11_felon_9 rfl ?_
  refine x_iload_n hx hb hl 3 rfl dX11_felon_10 rfl ?_
  refine x_goi (x_runS (As := [.int (xJ x), .int (xJ y)]) hx hb hml hown hT hE hW hl.1 cf_X11_isOn wq1430 wq1429 (c_X11_isOn l D g T h0 s0 hW.2.1 x rx y ry) ⟨rfl, rfl, ⟨by decide, by decide⟩, ⟨by decide, by decide⟩⟩ rfl rfl (Nat.le_of_ble_eq_true rfl) dX11_felon_11) hW (fun x5 s6 H locs rx5 hp7 hW => ?_)
  obtain ⟨es6, hp7⟩ := hp7
  subst es6
  have ghp7 := hp7
  refine x_if_eq (tgt := 42) hx hb rx5 dX11_felon_14 (by decide) (fun c8 => ?_) (fun c8 => ?_)
  · skip
    refine x_iconst hx hb dX11_felon_42 ?_
    rw [eQ]
    exact x_zret hx hb hr hlk hW (by omega) ⟨hF, ⟨p0, p1, p2, k269_37, trivial⟩, by omega⟩ dX11_felon_43
  refine x_aload_n hx hb hl 0 rfl dX11_felon_17 rfl ?_
  refine x_bipush hx hb dX11_felon_18 (by decide) ?_
  refine x_iload_n hx hb hl 3 rfl dX11_felon_20 rfl ?_
  refine x_imul hx hb dX11_felon_21 ?_
  refine x_iload_n hx hb hl 2 rfl dX11_felon_22 rfl ?_
  refine x_iadd hx hb dX11_felon_23 ?_
  refine x_goi (x_runV (As := [.int (xJ ((10 * y) + x))]) hx hb hml hown hT hE hW hl.1 (Or.inl (by decide)) (so_268 h0 g _) rfl cf_X11_isGround wq1419 wq110 wq1417 (c_X11_isGroundM l D g T h0 s0 hW.2.1 ((10 * y) + x) (by omega) (by omega) p0 p1 p2) ⟨rfl, rfl, ⟨by decide, by decide⟩, ⟨by decide, by decide⟩⟩ rfl rfl (Nat.le_of_ble_eq_true rfl) dX11_felon_24) hW (fun x9 s10 H locs rx9 hp11 hW => ?_)
  obtain ⟨es10, hp11⟩ := hp11
  subst es10
  have ghp11 := hp11
  refine x_if_eq (tgt := 42) hx hb rx9 dX11_felon_27 (by decide) (fun c12 => ?_) (fun c12 => ?_)
  · skip
    refine x_iconst hx hb dX11_felon_42 ?_
    rw [eQ]
    exact x_zret hx hb hr hlk hW (by omega) ⟨hF, ⟨p0, p1, p2, k269_37, trivial⟩, by omega⟩ dX11_felon_43
  refine x_iload hx hb hl 4 rfl dX11_felon_30 ?_
  refine x_iconst hx hb dX11_felon_32 ?_
  refine x_sipush hx hb dX11_felon_33 (by decide) ?_
  refine x_goi (x_runS (As := [.int (xJ w), .int (xJ 0), .int (xJ 999)]) hx hb hml hown hT hE hW hl.1 cf_X11_in wq1383 wq1382 (c_X11_in l D g T h0 s0 hW.2.1 w rw 0 (by decide) 999 (by decide)) ⟨rfl, rfl, ⟨by decide, by decide⟩, ⟨by decide, by decide⟩⟩ rfl rfl (Nat.le_of_ble_eq_true rfl) dX11_felon_36) hW (fun x13 s14 H locs rx13 hp15 hW => ?_)
  obtain ⟨es14, hp15⟩ := hp15
  subst es14
  have ghp15 := hp15
  refine x_if_ne (tgt := 44) hx hb rx13 dX11_felon_39 (by decide) (fun c16 => ?_) (fun c16 => ?_)
  · skip
    refine x_aload_n hx hb hl 0 rfl dX11_felon_44 rfl ?_
    refine x_get (j := 0) (v := .ref (h0 + 269)) hx hb hown hT hE hW cls_X11 (Or.inl (by decide)) (so_268 h0 g _) (by decide) rfl wq1185 dX11_felon_45 ?_
    refine x_bipush hx hb dX11_felon_48 (by decide) ?_
    refine x_aload_n hx hb hl 0 rfl dX11_felon_50 rfl ?_
    refine x_get (j := 0) (v := .ref (h0 + 269)) hx hb hown hT hE hW cls_X11 (Or.inl (by decide)) (so_268 h0 g _) (by decide) rfl wq1185 dX11_felon_51 ?_
    refine x_bipush hx hb dX11_felon_54 (by decide) ?_
    refine x_iald hx hb hE hW (Or.inl (by decide)) (sa_269 h0 g _) ⟨by decide, by decide⟩ (by decide) dX11_felon_56 ?_
    refine x_rd hW (fun x17 ex17 rx17 => ?_)
    refine x_iconst hx hb dX11_felon_57 ?_
    refine x_iload_n hx hb hl 1 rfl dX11_felon_58 rfl ?_
    refine lv_ishl hx hb dX11_felon_59 ?_
    refine x_any (fun x18 rx18 => ?_)
    refine lv_ior hx hb dX11_felon_60 ?_
    refine x_any (fun x19 rx19 => ?_)
    refine x_iast hx hb hE hW (by decide) (fun σ => sa_269 h0 g σ) ⟨by decide, by decide⟩ (by decide) rx19 dX11_felon_61 (fun H locs s20 es20 hW => ?_)
    have q21 : IMn s20 := by rw [es20]; exact IMn_N269 p0 (by omega)
    have q22 : IMk s20 := by rw [es20]; exact IMk_o (by unfold suIMk; omega) p1
    have q23 : IMo s20 := by rw [es20]; exact IMo_o (by unfold suIMo; omega) p2
    have q24 : s20 268 8 = s0 268 8 := (show s20 268 8 = s0 268 8 from by rw [es20, xU_k _ _ _ (by omega)]).trans k268_8
    have q25 : s20 268 58 = s0 268 58 := (show s20 268 58 = s0 268 58 from by rw [es20, xU_k _ _ _ (by omega)]).trans k268_58
    have q26 : s20 269 37 = s0 269 37 := (show s20 269 37 = s0 269 37 from by rw [es20, xU_j _ _ (by decide)]).trans k269_37
    have hF27 := hF.put es20 (by omega)
    refine x_aload_n hx hb hl 0 rfl dX11_felon_62 rfl ?_
    refine x_get (j := 0) (v := .ref (h0 + 269)) hx hb hown hT hE hW cls_X11 (Or.inl (by decide)) (so_268 h0 g _) (by decide) rfl wq1185 dX11_felon_63 ?_
    refine x_bipush hx hb dX11_felon_66 (by decide) ?_
    refine x_aload_n hx hb hl 0 rfl dX11_felon_68 rfl ?_
    refine x_get (j := 0) (v := .ref (h0 + 269)) hx hb hown hT hE hW cls_X11 (Or.inl (by decide)) (so_268 h0 g _) (by decide) rfl wq1185 dX11_felon_69 ?_
    refine x_bipush hx hb dX11_felon_72 (by decide) ?_
    refine x_iald hx hb hE hW (Or.inl (by decide)) (sa_269 h0 g _) ⟨by decide, by decide⟩ (by decide) dX11_felon_74 ?_
    refine x_rd hW (fun x28 ex28 rx28 => ?_)
    refine x_iconst hx hb dX11_felon_75 ?_
    refine x_iload_n hx hb hl 1 rfl dX11_felon_76 rfl ?_
    refine lv_ishl hx hb dX11_felon_77 ?_
    refine x_any (fun x29 rx29 => ?_)
    refine x_iconst hx hb dX11_felon_78 ?_
    refine lv_ixor hx hb dX11_felon_79 ?_
    refine x_any (fun x30 rx30 => ?_)
    refine lv_iand hx hb dX11_felon_80 ?_
    refine x_any (fun x31 rx31 => ?_)
    refine x_iast hx hb hE hW (by decide) (fun σ => sa_269 h0 g σ) ⟨by decide, by decide⟩ (by decide) rx31 dX11_felon_81 (fun H locs s32 es32 hW => ?_)
    have q33 : IMn s32 := by rw [es32]; exact IMn_N269 q21 (by omega)
    have q34 : IMk s32 := by rw [es32]; exact IMk_o (by unfold suIMk; omega) q22
    have q35 : IMo s32 := by rw [es32]; exact IMo_o (by unfold suIMo; omega) q23
    have q36 : s32 268 8 = s0 268 8 := (show s32 268 8 = s20 268 8 from by rw [es32, xU_k _ _ _ (by omega)]).trans q24
    have q37 : s32 268 58 = s0 268 58 := (show s32 268 58 = s20 268 58 from by rw [es32, xU_k _ _ _ (by omega)]).trans q25
    have q38 : s32 269 37 = s0 269 37 := (show s32 269 37 = s20 269 37 from by rw [es32, xU_j _ _ (by decide)]).trans q26
    have hF39 := hF27.put es32 (by omega)
    refine x_aload_n hx hb hl 0 rfl dX11_felon_82 rfl ?_
    refine x_get (j := 0) (v := .ref (h0 + 269)) hx hb hown hT hE hW cls_X11 (Or.inl (by decide)) (so_268 h0 g _) (by decide) rfl wq1185 dX11_felon_83 ?_
    refine x_iconst hx hb dX11_felon_86 ?_
    refine x_iload_n hx hb hl 1 rfl dX11_felon_87 rfl ?_
    refine x_iadd hx hb dX11_felon_88 ?_
    refine x_bipush hx hb dX11_felon_89 (by decide) ?_
    refine x_iload_n hx hb hl 3 rfl dX11_felon_91 rfl ?_
    refine x_imul hx hb dX11_felon_92 ?_
    refine x_iload_n hx hb hl 2 rfl dX11_felon_93 rfl ?_
    refine x_iadd hx hb dX11_felon_94 ?_
    refine x_iast hx hb hE hW (by decide) (fun σ => sa_269 h0 g σ) (by omega) (by decide) (by omega) dX11_felon_95 (fun H locs s40 es40 hW => ?_)
    have q41 : IMn s40 := by rw [es40]; exact IMn_N269 q33 (by omega)
    have q42 : IMk s40 := by rw [es40]; exact IMk_o (by unfold suIMk; omega) q34
    have q43 : IMo s40 := by rw [es40]; exact IMo_o (by unfold suIMo; omega) q35
    have q44 : s40 268 8 = s0 268 8 := (show s40 268 8 = s32 268 8 from by rw [es40, xU_k _ _ _ (by omega)]).trans q36
    have q45 : s40 268 58 = s0 268 58 := (show s40 268 58 = s32 268 58 from by rw [es40, xU_k _ _ _ (by omega)]).trans q37
    have q46 : s40 269 37 = s0 269 37 := (show s40 269 37 = s32 269 37 from by rw [es40, xU_j _ _ (by omega)]).trans q38
    have hF47 := hF39.put es40 (by omega)
    refine x_aload_n hx hb hl 0 rfl dX11_felon_96 rfl ?_
    refine x_get (j := 0) (v := .ref (h0 + 269)) hx hb hown hT hE hW cls_X11 (Or.inl (by decide)) (so_268 h0 g _) (by decide) rfl wq1185 dX11_felon_97 ?_
    refine x_bipush hx hb dX11_felon_100 (by decide) ?_
    refine x_iload_n hx hb hl 1 rfl dX11_felon_102 rfl ?_
    refine x_iadd hx hb dX11_felon_103 ?_
    refine x_iload hx hb hl 4 rfl dX11_felon_104 ?_
    refine x_iast hx hb hE hW (by decide) (fun σ => sa_269 h0 g σ) (by omega) (by decide) rw dX11_felon_106 (fun H locs s48 es48 hW => ?_)
    have q49 : IMn s48 := by rw [es48]; exact IMn_N269 q41 (by omega)
    have q50 : IMk s48 := by rw [es48]; exact IMk_o (by unfold suIMk; omega) q42
    have q51 : IMo s48 := by rw [es48]; exact IMo_o (by unfold suIMo; omega) q43
    have q52 : s48 268 8 = s0 268 8 := (show s48 268 8 = s40 268 8 from by rw [es48, xU_k _ _ _ (by omega)]).trans q44
    have q53 : s48 268 58 = s0 268 58 := (show s48 268 58 = s40 268 58 from by rw [es48, xU_k _ _ _ (by omega)]).trans q45
    have q54 : s48 269 37 = s0 269 37 := (show s48 269 37 = s40 269 37 from by rw [es48, xU_j _ _ (by omega)]).trans q46
    have hF55 := hF47.put es48 (by omega)
    refine x_aload_n hx hb hl 0 rfl dX11_felon_107 rfl ?_
    refine x_get (j := 0) (v := .ref (h0 + 269)) hx hb hown hT hE hW cls_X11 (Or.inl (by decide)) (so_268 h0 g _) (by decide) rfl wq1185 dX11_felon_108 ?_
    refine x_bipush hx hb dX11_felon_111 (by decide) ?_
    refine x_iload_n hx hb hl 1 rfl dX11_felon_113 rfl ?_
    refine x_iadd hx hb dX11_felon_114 ?_
    refine x_iconst hx hb dX11_felon_115 ?_
    refine x_iast hx hb hE hW (by decide) (fun σ => sa_269 h0 g σ) (by omega) (by decide) (by decide) dX11_felon_116 (fun H locs s56 es56 hW => ?_)
    have q57 : IMn s56 := by rw [es56]; exact IMn_N269 q49 (by omega)
    have q58 : IMk s56 := by rw [es56]; exact IMk_o (by unfold suIMk; omega) q50
    have q59 : IMo s56 := by rw [es56]; exact IMo_o (by unfold suIMo; omega) q51
    have q60 : s56 268 8 = s0 268 8 := (show s56 268 8 = s48 268 8 from by rw [es56, xU_k _ _ _ (by omega)]).trans q52
    have q61 : s56 268 58 = s0 268 58 := (show s56 268 58 = s48 268 58 from by rw [es56, xU_k _ _ _ (by omega)]).trans q53
    have q62 : s56 269 37 = s0 269 37 := (show s56 269 37 = s48 269 37 from by rw [es56, xU_j _ _ (by omega)]).trans q54
    have hF63 := hF55.put es56 (by omega)
    refine x_iconst hx hb dX11_felon_117 ?_
    rw [eQ]
    exact x_zret hx hb hr hlk hW (by omega) ⟨hF63, ⟨q57, q58, q59, q62, trivial⟩, by omega⟩ dX11_felon_118
  refine x_iconst hx hb dX11_felon_42 ?_
  rw [eQ]
  exact x_zret hx hb hr hlk hW (by omega) ⟨hF, ⟨p0, p1, p2, k269_37, trivial⟩, by omega⟩ dX11_felon_43
set_option maxHeartbeats 4000000 in
set_option maxRecDepth 100000 in
theorem c_X11_lampM (l : Launch) (D : va_G) (g : xG) (T : Nat × Nat × Nat) (h0 : Nat) (s0 : xS) (hσ : xRR s0) (i : Int) (ri : xR i) (x : Int) (rx : xR x) (y : Int) (ry : xR y) (p0 : IMn s0) (p1 : IMk s0) (p2 : IMo s0) : Met l yX11_lamp (xws yX11_lamp cX11_lamp 4 (some .boolean)) { frames := 2, cells := 0, slots := 0, locals := 43 } (xP [.ref (h0 + 268), .int (xJ i), .int (xJ x), .int (xJ y)] D g T h0 s0) (xQi D g h0 (fun r τ => xFr (fun k => k = 273) s0 τ ∧ (((IMn τ) ∧ (IMk τ) ∧ (IMo τ) ∧ True) ∧ ((r = 1 ∧ 0 ≤ i ∧ i ≤ 3 ∧ (x = -1 ∨ (0 ≤ x ∧ x < 10 ∧ 0 ≤ y ∧ y < 10 ∧ (s0 272 (10 * y + x) = 0 ∨ s0 272 (10 * y + x) = 2)))) ∨ (r = 0 ∧ ¬ (0 ≤ i ∧ i ≤ 3 ∧ (x = -1 ∨ (0 ≤ x ∧ x < 10 ∧ 0 ≤ y ∧ y < 10 ∧ (s0 272 (10 * y + x) = 0 ∨ s0 272 (10 * y + x) = 2))))))))) 0 0 (xA h0) := by
  refine x_met hσ (by decide) (Nat.le_of_ble_eq_true rfl) ?_
  intro p e s m args below meth c hx hb hr hml hown hT hlk hnm hE hW ls hl
  have hl : lv_has ls 4 [(0, .ref (h0 + 268)), (1, .int (xJ i)), (2, .int (xJ x)), (3, .int (xJ y))] := hl
  obtain ⟨Q, eQ⟩ : ∃ Q, Q = MQ below (xQi D g h0 (fun r τ => xFr (fun k => k = 273) s0 τ ∧ (((IMn τ) ∧ (IMk τ) ∧ (IMo τ) ∧ True) ∧ ((r = 1 ∧ 0 ≤ i ∧ i ≤ 3 ∧ (x = -1 ∨ (0 ≤ x ∧ x < 10 ∧ 0 ≤ y ∧ y < 10 ∧ (s0 272 (10 * y + x) = 0 ∨ s0 272 (10 * y + x) = 2)))) ∨ (r = 0 ∧ ¬ (0 ≤ i ∧ i ≤ 3 ∧ (x = -1 ∨ (0 ≤ x ∧ x < 10 ∧ 0 ≤ y ∧ y < 10 ∧ (s0 272 (10 * y + x) = 0 ∨ s0 272 (10 * y + x) = 2))))))))) args s 0 0 (xA h0) := ⟨_, rfl⟩
  rw [← eQ]
  generalize hHe : ([] : List Loc) = locs at hW ⊢
  obtain ⟨H, eH⟩ : ∃ H, H = s.heap := ⟨_, rfl⟩
  rw [← eH] at hW ⊢
  have hF : xFr (fun k => k = 273) s0 s0 := xFr.rf
  have k268_8 : s0 268 8 = s0 268 8 := rfl
  have k268_58 : s0 268 58 = s0 268 58 := rfl
  refine x_iload_n hx hb hl 1 rfl dX11_lamp_0 rfl ?_
  refine x_iconst hx hb dX11_lamp_1 ?_
  refine x_goi (x_runS (As := [.int (xJ i), .int (xJ 4)]) hx hb hml hown hT hE hW hl.1 cf_X11_isFive wq1412 wq1411 (c_X11_isFive l D g T h0 s0 hW.2.1 i ri 4 (by decide)) ⟨rfl, rfl, ⟨by decide, by decide⟩, ⟨by decide, by decide⟩⟩ rfl rfl (Nat.le_of_ble_eq_true rfl) dX11_lamp_2) hW (fun x1 s2 H locs rx1 hp3 hW => ?_)
  obtain ⟨es2, hp3⟩ := hp3
  subst es2
  have ghp3 := hp3
  refine x_if_ne (tgt := 10) hx hb rx1 dX11_lamp_5 (by decide) (fun c4 => ?_) (fun c4 => ?_)
  · skip
    refine x_iload_n hx hb hl 2 rfl dX11_lamp_10 rfl ?_
    refine x_iconst hx hb dX11_lamp_11 ?_
    refine x_icmp_eq (tgt := 38) hx hb rx (by decide) dX11_lamp_12 (by decide) (fun c5 => ?_) (fun c5 => ?_)
    · skip
      refine x_aload_n hx hb hl 0 rfl dX11_lamp_38 rfl ?_
      refine x_get (j := 4) (v := .ref (h0 + 273)) hx hb hown hT hE hW cls_X11 (Or.inl (by decide)) (so_268 h0 g _) (by decide) rfl wq1189 dX11_lamp_39 ?_
      refine x_iload_n hx hb hl 1 rfl dX11_lamp_42 rfl ?_
      refine x_iload_n hx hb hl 2 rfl dX11_lamp_43 rfl ?_
      refine x_iconst hx hb dX11_lamp_44 ?_
      refine x_icmp_ne (tgt := 52) hx hb rx (by decide) dX11_lamp_45 (by decide) (fun c6 => ?_) (fun c6 => ?_)
      · skip
        refine x_bipush hx hb dX11_lamp_52 (by decide) ?_
        refine x_iload_n hx hb hl 3 rfl dX11_lamp_54 rfl ?_
        refine x_imul hx hb dX11_lamp_55 ?_
        refine x_iload_n hx hb hl 2 rfl dX11_lamp_56 rfl ?_
        refine x_iadd hx hb dX11_lamp_57 ?_
        refine x_iast hx hb hE hW (by decide) (fun σ => sa_273 h0 g σ) (by omega) (by decide) (by omega) dX11_lamp_58 (fun H locs s7 es7 hW => ?_)
        have q8 : IMn s7 := by rw [es7]; exact IMn_273 p0 (by omega)
        have q9 : IMk s7 := by rw [es7]; exact IMk_o (by unfold suIMk; omega) p1
        have q10 : IMo s7 := by rw [es7]; exact IMo_o (by unfold suIMo; omega) p2
        have q11 : s7 268 8 = s0 268 8 := (show s7 268 8 = s0 268 8 from by rw [es7, xU_k _ _ _ (by omega)]).trans k268_8
        have q12 : s7 268 58 = s0 268 58 := (show s7 268 58 = s0 268 58 from by rw [es7, xU_k _ _ _ (by omega)]).trans k268_58
        have hF13 := hF.put es7 (by omega)
        refine x_iconst hx hb dX11_lamp_59 ?_
        rw [eQ]
        exact x_zret hx hb hr hlk hW (by omega) ⟨hF13, ⟨q8, q9, q10, trivial⟩, Or.inl ⟨by omega, by omega, by omega, by first | exact Or.inl (by omega) | exact Or.inr ⟨by omega, by omega, by omega, by omega, by omega⟩⟩⟩ dX11_lamp_60
      refine x_iconst hx hb dX11_lamp_48 ?_
      refine lv_goto (tgt := 58) hx hb dX11_lamp_49 (by decide) ?_
      refine x_iast hx hb hE hW (by decide) (fun σ => sa_273 h0 g σ) (by omega) (by decide) (by decide) dX11_lamp_58 (fun H locs s14 es14 hW => ?_)
      have q15 : IMn s14 := by rw [es14]; exact IMn_273 p0 (by omega)
      have q16 : IMk s14 := by rw [es14]; exact IMk_o (by unfold suIMk; omega) p1
      have q17 : IMo s14 := by rw [es14]; exact IMo_o (by unfold suIMo; omega) p2
      have q18 : s14 268 8 = s0 268 8 := (show s14 268 8 = s0 268 8 from by rw [es14, xU_k _ _ _ (by omega)]).trans k268_8
      have q19 : s14 268 58 = s0 268 58 := (show s14 268 58 = s0 268 58 from by rw [es14, xU_k _ _ _ (by omega)]).trans k268_58
      have hF20 := hF.put es14 (by omega)
      refine x_iconst hx hb dX11_lamp_59 ?_
      rw [eQ]
      exact x_zret hx hb hr hlk hW (by omega) ⟨hF20, ⟨q15, q16, q17, trivial⟩, Or.inl ⟨by omega, by omega, by omega, by first | exact Or.inl (by omega) | exact Or.inr ⟨by omega, by omega, by omega, by omega, by omega⟩⟩⟩ dX11_lamp_60
    refine x_iload_n hx hb hl 2 rfl dX11_lamp_15 rfl ?_
    refine x_iload_n hx hb hl 3 rfl dX11_lamp_16 rfl ?_
    refine x_goi (x_runS (As := [.int (xJ x), .int (xJ y)]) hx hb hml hown hT hE hW hl.1 cf_X11_isOn wq1430 wq1429 (c_X11_isOn l D g T h0 s0 hW.2.1 x rx y ry) ⟨rfl, rfl, ⟨by decide, by decide⟩, ⟨by decide, by decide⟩⟩ rfl rfl (Nat.le_of_ble_eq_true rfl) dX11_lamp_17) hW (fun x21 s22 H locs rx21 hp23 hW => ?_)
    obtain ⟨es22, hp23⟩ := hp23
    subst es22
    have ghp23 := hp23
    refine x_if_eq (tgt := 36) hx hb rx21 dX11_lamp_20 (by decide) (fun c24 => ?_) (fun c24 => ?_)
    · skip
      refine x_iconst hx hb dX11_lamp_36 ?_
      rw [eQ]
      exact x_zret hx hb hr hlk hW (by omega) ⟨hF, ⟨p0, p1, p2, trivial⟩, Or.inr ⟨by omega, fun z => z.2.2.elim (fun z1 => by omega) (fun z1 => by omega)⟩⟩ dX11_lamp_37
    refine x_aload_n hx hb hl 0 rfl dX11_lamp_23 rfl ?_
    refine x_bipush hx hb dX11_lamp_24 (by decide) ?_
    refine x_iload_n hx hb hl 3 rfl dX11_lamp_26 rfl ?_
    refine x_imul hx hb dX11_lamp_27 ?_
    refine x_iload_n hx hb hl 2 rfl dX11_lamp_28 rfl ?_
    refine x_iadd hx hb dX11_lamp_29 ?_
    refine x_goi (x_runV (As := [.int (xJ ((10 * y) + x))]) hx hb hml hown hT hE hW hl.1 (Or.inl (by decide)) (so_268 h0 g _) rfl cf_X11_isGround wq1419 wq110 wq1417 (c_X11_isGroundM l D g T h0 s0 hW.2.1 ((10 * y) + x) (by omega) (by omega) p0 p1 p2) ⟨rfl, rfl, ⟨by decide, by decide⟩, ⟨by decide, by decide⟩⟩ rfl rfl (Nat.le_of_ble_eq_true rfl) dX11_lamp_30) hW (fun x25 s26 H locs rx25 hp27 hW => ?_)
    obtain ⟨es26, hp27⟩ := hp27
    subst es26
    have ghp27 := hp27
    refine x_if_ne (tgt := 38) hx hb rx25 dX11_lamp_33 (by decide) (fun c28 => ?_) (fun c28 => ?_)
    · skip
      refine x_aload_n hx hb hl 0 rfl dX11_lamp_38 rfl ?_
      refine x_get (j := 4) (v := .ref (h0 + 273)) hx hb hown hT hE hW cls_X11 (Or.inl (by decide)) (so_268 h0 g _) (by decide) rfl wq1189 dX11_lamp_39 ?_
      refine x_iload_n hx hb hl 1 rfl dX11_lamp_42 rfl ?_
      refine x_iload_n hx hb hl 2 rfl dX11_lamp_43 rfl ?_
      refine x_iconst hx hb dX11_lamp_44 ?_
      refine x_icmp_ne (tgt := 52) hx hb rx (by decide) dX11_lamp_45 (by decide) (fun c29 => ?_) (fun c29 => ?_)
      · skip
        refine x_bipush hx hb dX11_lamp_52 (by decide) ?_
        refine x_iload_n hx hb hl 3 rfl dX11_lamp_54 rfl ?_
        refine x_imul hx hb dX11_lamp_55 ?_
        refine x_iload_n hx hb hl 2 rfl dX11_lamp_56 rfl ?_
        refine x_iadd hx hb dX11_lamp_57 ?_
        refine x_iast hx hb hE hW (by decide) (fun σ => sa_273 h0 g σ) (by omega) (by decide) (by omega) dX11_lamp_58 (fun H locs s30 es30 hW => ?_)
        have q31 : IMn s30 := by rw [es30]; exact IMn_273 p0 (by omega)
        have q32 : IMk s30 := by rw [es30]; exact IMk_o (by unfold suIMk; omega) p1
        have q33 : IMo s30 := by rw [es30]; exact IMo_o (by unfold suIMo; omega) p2
        have q34 : s30 268 8 = s0 268 8 := (show s30 268 8 = s0 268 8 from by rw [es30, xU_k _ _ _ (by omega)]).trans k268_8
        have q35 : s30 268 58 = s0 268 58 := (show s30 268 58 = s0 268 58 from by rw [es30, xU_k _ _ _ (by omega)]).trans k268_58
        have hF36 := hF.put es30 (by omega)
        refine x_iconst hx hb dX11_lamp_59 ?_
        rw [eQ]
        exact x_zret hx hb hr hlk hW (by omega) ⟨hF36, ⟨q31, q32, q33, trivial⟩, Or.inl ⟨by omega, by omega, by omega, by first | exact Or.inl (by omega) | exact Or.inr ⟨by omega, by omega, by omega, by omega, by omega⟩⟩⟩ dX11_lamp_60
      refine x_iconst hx hb dX11_lamp_48 ?_
      refine lv_goto (tgt := 58) hx hb dX11_lamp_49 (by decide) ?_
      refine x_iast hx hb hE hW (by decide) (fun σ => sa_273 h0 g σ) (by omega) (by decide) (by decide) dX11_lamp_58 (fun H locs s37 es37 hW => ?_)
      have q38 : IMn s37 := by rw [es37]; exact IMn_273 p0 (by omega)
      have q39 : IMk s37 := by rw [es37]; exact IMk_o (by unfold suIMk; omega) p1
      have q40 : IMo s37 := by rw [es37]; exact IMo_o (by unfold suIMo; omega) p2
      have q41 : s37 268 8 = s0 268 8 := (show s37 268 8 = s0 268 8 from by rw [es37, xU_k _ _ _ (by omega)]).trans k268_8
      have q42 : s37 268 58 = s0 268 58 := (show s37 268 58 = s0 268 58 from by rw [es37, xU_k _ _ _ (by omega)]).trans k268_58
      have hF43 := hF.put es37 (by omega)
      refine x_iconst hx hb dX11_lamp_59 ?_
      rw [eQ]
      exact x_zret hx hb hr hlk hW (by omega) ⟨hF43, ⟨q38, q39, q40, trivial⟩, Or.inl ⟨by omega, by omega, by omega, by first | exact Or.inl (by omega) | exact Or.inr ⟨by omega, by omega, by omega, by omega, by omega⟩⟩⟩ dX11_lamp_60
    refine x_iconst hx hb dX11_lamp_36 ?_
    rw [eQ]
    exact x_zret hx hb hr hlk hW (by omega) ⟨hF, ⟨p0, p1, p2, trivial⟩, Or.inr ⟨by omega, fun z => z.2.2.elim (fun z1 => by omega) (fun z1 => by omega)⟩⟩ dX11_lamp_37
  refine x_iconst hx hb dX11_lamp_8 ?_
  rw [eQ]
  exact x_zret hx hb hr hlk hW (by omega) ⟨hF, ⟨p0, p1, p2, trivial⟩, Or.inr ⟨by omega, fun z => by
      have z1 := z.1
      have z2 := z.2.1
      omega⟩⟩ dX11_lamp_9

