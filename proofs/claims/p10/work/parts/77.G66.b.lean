set_option maxHeartbeats 4000000 in
set_option maxRecDepth 100000 in
theorem c_X11_judgeJ (l : Launch) (D : va_G) (g : xG) (T : Nat × Nat × Nat) (h0 : Nat) (s0 : xS) (hσ : xRR s0) (j : Int) (rj : xR j) (x : Int) (rx : xR x) (y : Int) (ry : xR y) (hB : 0 ≤ s0 269 34 ∧ s0 269 34 ≤ 3) (p0 : IMn s0) (p1 : IMk s0) (p2 : IMo s0) : Met l yX11_judge (xws yX11_judge cX11_judge 4 (some .boolean)) { frames := 2, cells := 0, slots := 0, locals := 43 } (xP [.ref (h0 + 268), .int (xJ j), .int (xJ x), .int (xJ y)] D g T h0 s0) (xQi D g h0 (fun r τ => xFr (fun k => k = 269) s0 τ ∧ (((IMn τ) ∧ (IMk τ) ∧ (IMo τ) ∧ (τ 269 37 = s0 269 37) ∧ True) ∧ ((r = 1 ∧ (0 ≤ j ∧ j < 2 ∧ (0 ≤ x ∧ x < 10 ∧ 0 ≤ y ∧ y < 10 ∧ (s0 272 (10 * y + x) = 0 ∨ s0 272 (10 * y + x) = 2)) ∧ zrj (s0 269) (1 - j) ≠ 10 * y + x) ∧ τ 269 = xud (xud (s0 269) 34 (zor (s0 269 34) j)) j (10 * y + x)) ∨ (r = 0 ∧ ¬ (0 ≤ j ∧ j < 2 ∧ (0 ≤ x ∧ x < 10 ∧ 0 ≤ y ∧ y < 10 ∧ (s0 272 (10 * y + x) = 0 ∨ s0 272 (10 * y + x) = 2)) ∧ zrj (s0 269) (1 - j) ≠ 10 * y + x) ∧ τ 269 = s0 269))))) 0 0 (xA h0) := by
  refine x_met hσ (by decide) (Nat.le_of_ble_eq_true rfl) ?_
  intro p e s m args below meth c hx hb hr hml hown hT hlk hnm hE hW ls hl
  have hl : lv_has ls 4 [(0, .ref (h0 + 268)), (1, .int (xJ j)), (2, .int (xJ x)), (3, .int (xJ y))] := hl
  obtain ⟨Q, eQ⟩ : ∃ Q, Q = MQ below (xQi D g h0 (fun r τ => xFr (fun k => k = 269) s0 τ ∧ (((IMn τ) ∧ (IMk τ) ∧ (IMo τ) ∧ (τ 269 37 = s0 269 37) ∧ True) ∧ ((r = 1 ∧ (0 ≤ j ∧ j < 2 ∧ (0 ≤ x ∧ x < 10 ∧ 0 ≤ y ∧ y < 10 ∧ (s0 272 (10 * y + x) = 0 ∨ s0 272 (10 * y + x) = 2)) ∧ zrj (s0 269) (1 - j) ≠ 10 * y + x) ∧ τ 269 = xud (xud (s0 269) 34 (zor (s0 269 34) j)) j (10 * y + x)) ∨ (r = 0 ∧ ¬ (0 ≤ j ∧ j < 2 ∧ (0 ≤ x ∧ x < 10 ∧ 0 ≤ y ∧ y < 10 ∧ (s0 272 (10 * y + x) = 0 ∨ s0 272 (10 * y + x) = 2)) ∧ zrj (s0 269) (1 - j) ≠ 10 * y + x) ∧ τ 269 = s0 269))))) args s 0 0 (xA h0) := ⟨_, rfl⟩
  rw [← eQ]
  generalize hHe : ([] : List Loc) = locs at hW ⊢
  obtain ⟨H, eH⟩ : ∃ H, H = s.heap := ⟨_, rfl⟩
  rw [← eH] at hW ⊢
  have hF : xFr (fun k => k = 269) s0 s0 := xFr.rf
  have k268_8 : s0 268 8 = s0 268 8 := rfl
  have k268_58 : s0 268 58 = s0 268 58 := rfl
  have k269_37 : s0 269 37 = s0 269 37 := rfl
  refine x_iload_n hx hb hl 1 rfl dX11_judge_0 rfl ?_
  refine x_iconst hx hb dX11_judge_1 ?_
  refine x_goi (x_runS (As := [.int (xJ j), .int (xJ 2)]) hx hb hml hown hT hE hW hl.1 cf_X11_isFive wq1412 wq1411 (c_X11_isFive l D g T h0 s0 hW.2.1 j rj 2 (by decide)) ⟨rfl, rfl, ⟨by decide, by decide⟩, ⟨by decide, by decide⟩⟩ rfl rfl (Nat.le_of_ble_eq_true rfl) dX11_judge_2) hW (fun x1 s2 H locs rx1 hp3 hW => ?_)
  obtain ⟨es2, hp3⟩ := hp3
  subst es2
  have ghp3 := hp3
  refine x_if_eq (tgt := 29) hx hb rx1 dX11_judge_5 (by decide) (fun c4 => ?_) (fun c4 => ?_)
  · skip
    refine x_iconst hx hb dX11_judge_29 ?_
    rw [eQ]
    exact x_zret hx hb hr hlk hW (by omega) ⟨hF, ⟨p0, p1, p2, k269_37, trivial⟩, Or.inr ⟨rfl, by omega, rfl⟩⟩ dX11_judge_30
  refine x_iload_n hx hb hl 2 rfl dX11_judge_8 rfl ?_
  refine x_iload_n hx hb hl 3 rfl dX11_judge_9 rfl ?_
  refine x_goi (x_runS (As := [.int (xJ x), .int (xJ y)]) hx hb hml hown hT hE hW hl.1 cf_X11_isOn wq1430 wq1429 (c_X11_isOn l D g T h0 s0 hW.2.1 x rx y ry) ⟨rfl, rfl, ⟨by decide, by decide⟩, ⟨by decide, by decide⟩⟩ rfl rfl (Nat.le_of_ble_eq_true rfl) dX11_judge_10) hW (fun x5 s6 H locs rx5 hp7 hW => ?_)
  obtain ⟨es6, hp7⟩ := hp7
  subst es6
  have ghp7 := hp7
  refine x_if_eq (tgt := 29) hx hb rx5 dX11_judge_13 (by decide) (fun c8 => ?_) (fun c8 => ?_)
  · skip
    refine x_iconst hx hb dX11_judge_29 ?_
    rw [eQ]
    exact x_zret hx hb hr hlk hW (by omega) ⟨hF, ⟨p0, p1, p2, k269_37, trivial⟩, Or.inr ⟨rfl, by omega, rfl⟩⟩ dX11_judge_30
  refine x_aload_n hx hb hl 0 rfl dX11_judge_16 rfl ?_
  refine x_bipush hx hb dX11_judge_17 (by decide) ?_
  refine x_iload_n hx hb hl 3 rfl dX11_judge_19 rfl ?_
  refine x_imul hx hb dX11_judge_20 ?_
  refine x_iload_n hx hb hl 2 rfl dX11_judge_21 rfl ?_
  refine x_iadd hx hb dX11_judge_22 ?_
  refine x_goi (x_runV (As := [.int (xJ ((10 * y) + x))]) hx hb hml hown hT hE hW hl.1 (Or.inl (by decide)) (so_268 h0 g _) rfl cf_X11_isGround wq1419 wq110 wq1417 (c_X11_isGroundM l D g T h0 s0 hW.2.1 ((10 * y) + x) (by omega) (by omega) p0 p1 p2) ⟨rfl, rfl, ⟨by decide, by decide⟩, ⟨by decide, by decide⟩⟩ rfl rfl (Nat.le_of_ble_eq_true rfl) dX11_judge_23) hW (fun x9 s10 H locs rx9 hp11 hW => ?_)
  obtain ⟨es10, hp11⟩ := hp11
  subst es10
  have ghp11 := hp11
  have H23 := ghp11
  refine x_if_ne (tgt := 31) hx hb rx9 dX11_judge_26 (by decide) (fun c12 => ?_) (fun c12 => ?_)
  · skip
    refine x_aload_n hx hb hl 0 rfl dX11_judge_31 rfl ?_
    refine x_iconst hx hb dX11_judge_32 ?_
    refine x_iload_n hx hb hl 1 rfl dX11_judge_33 rfl ?_
    refine x_isub hx hb dX11_judge_34 ?_
    refine x_goi (x_runV (As := [.int (xJ (1 - j))]) hx hb hml hown hT hE hW hl.1 (Or.inl (by decide)) (so_268 h0 g _) rfl cf_X11_isJudge wq1409 wq109 wq1407 (c_X11_isJudgeJ l D g T h0 s0 hW.2.1 (1 - j) (by omega) p0 p1 p2) ⟨rfl, rfl, ⟨by decide, by decide⟩, ⟨by decide, by decide⟩⟩ rfl rfl (Nat.le_of_ble_eq_true rfl) dX11_judge_35) hW (fun x13 s14 H locs rx13 hp15 hW => ?_)
    obtain ⟨es14, hp15⟩ := hp15
    subst es14
    have ghp15 := hp15
    have H35 := ghp15
    refine x_if_eq (tgt := 60) hx hb rx13 dX11_judge_38 (by decide) (fun c16 => ?_) (fun c16 => ?_)
    · skip
      refine x_aload_n hx hb hl 0 rfl dX11_judge_60 rfl ?_
      refine x_get (j := 0) (v := .ref (h0 + 269)) hx hb hown hT hE hW cls_X11 (Or.inl (by decide)) (so_268 h0 g _) (by decide) rfl wq1185 dX11_judge_61 ?_
      refine x_bipush hx hb dX11_judge_64 (by decide) ?_
      refine x_aload_n hx hb hl 0 rfl dX11_judge_66 rfl ?_
      refine x_get (j := 0) (v := .ref (h0 + 269)) hx hb hown hT hE hW cls_X11 (Or.inl (by decide)) (so_268 h0 g _) (by decide) rfl wq1185 dX11_judge_67 ?_
      refine x_bipush hx hb dX11_judge_70 (by decide) ?_
      refine x_iald hx hb hE hW (Or.inl (by decide)) (sa_269 h0 g _) ⟨by decide, by decide⟩ (by decide) dX11_judge_72 ?_
      refine x_rd hW (fun x17 ex17 rx17 => ?_)
      have V72 : x17 = s0 269 34 := ex17
      refine x_iconst hx hb dX11_judge_73 ?_
      refine x_iload_n hx hb hl 1 rfl dX11_judge_74 rfl ?_
      refine lv_ishl hx hb dX11_judge_75 ?_
      refine x_anyE (fun x18 ex18 rx18 => ?_)
      have V75 := ex18
      refine lv_ior hx hb dX11_judge_76 ?_
      refine x_anyE (fun x19 ex19 rx19 => ?_)
      have V76 : x19 = zor (s0 269 34) j := by
        rw [← V72]
        exact zor_j (by omega) (by omega) V75 rx19 ex19
      refine x_iast hx hb hE hW (by decide) (fun σ => sa_269 h0 g σ) ⟨by decide, by decide⟩ (by decide) rx19 dX11_judge_77 (fun H locs s20 es20 hW => ?_)
      have q21 : IMn s20 := by rw [es20]; exact IMn_N269 p0 (by omega)
      have q22 : IMk s20 := by rw [es20]; exact IMk_o (by unfold suIMk; first | decide | omega) p1
      have q23 : IMo s20 := by rw [es20]; exact IMo_o (by unfold suIMo; first | decide | omega) p2
      have q24 : s20 268 8 = s0 268 8 := (show s20 268 8 = s0 268 8 from by rw [es20, xU_k _ _ _ (by first | decide | omega)]).trans k268_8
      have q25 : s20 268 58 = s0 268 58 := (show s20 268 58 = s0 268 58 from by rw [es20, xU_k _ _ _ (by first | decide | omega)]).trans k268_58
      have q26 : s20 269 37 = s0 269 37 := (show s20 269 37 = s0 269 37 from by rw [es20, xU_j _ _ (by decide)]).trans k269_37
      have hF27 := hF.put es20 (by omega)
      have E77 := es20
      refine x_aload_n hx hb hl 0 rfl dX11_judge_78 rfl ?_
      refine x_get (j := 0) (v := .ref (h0 + 269)) hx hb hown hT hE hW cls_X11 (Or.inl (by decide)) (so_268 h0 g _) (by decide) rfl wq1185 dX11_judge_79 ?_
      refine x_iconst hx hb dX11_judge_82 ?_
      refine x_iload_n hx hb hl 1 rfl dX11_judge_83 rfl ?_
      refine x_iadd hx hb dX11_judge_84 ?_
      refine x_bipush hx hb dX11_judge_85 (by decide) ?_
      refine x_iload_n hx hb hl 3 rfl dX11_judge_87 rfl ?_
      refine x_imul hx hb dX11_judge_88 ?_
      refine x_iload_n hx hb hl 2 rfl dX11_judge_89 rfl ?_
      refine x_iadd hx hb dX11_judge_90 ?_
      refine x_iast hx hb hE hW (by decide) (fun σ => sa_269 h0 g σ) (by omega) (by decide) (by omega) dX11_judge_91 (fun H locs s28 es28 hW => ?_)
      have q29 : IMn s28 := by rw [es28]; exact IMn_N269 q21 (by omega)
      have q30 : IMk s28 := by rw [es28]; exact IMk_o (by unfold suIMk; first | decide | omega) q22
      have q31 : IMo s28 := by rw [es28]; exact IMo_o (by unfold suIMo; first | decide | omega) q23
      have q32 : s28 268 8 = s0 268 8 := (show s28 268 8 = s20 268 8 from by rw [es28, xU_k _ _ _ (by first | decide | omega)]).trans q24
      have q33 : s28 268 58 = s0 268 58 := (show s28 268 58 = s20 268 58 from by rw [es28, xU_k _ _ _ (by first | decide | omega)]).trans q25
      have q34 : s28 269 37 = s0 269 37 := (show s28 269 37 = s20 269 37 from by rw [es28, xU_j _ _ (by omega)]).trans q26
      have hF35 := hF27.put es28 (by omega)
      have E91 := es28
      refine x_iconst hx hb dX11_judge_92 ?_
      rw [eQ]
      exact x_zret hx hb hr hlk hW (by omega) ⟨hF35, ⟨q29, q30, q31, q34, trivial⟩, (by
          have z : zrj (s0 269) (1 - j) ≠ 10 * y + x := by
            first
              | (rw [zrj_n (by omega)]; omega)
              | (rw [zrj_p (by omega)]; omega)
          exact Or.inl ⟨rfl, by omega, by rw [E91, xU_xud, E77, xU_xud, V76, show (0 + j : Int) = j from by omega]⟩)⟩ dX11_judge_93
    refine x_aload_n hx hb hl 0 rfl dX11_judge_41 rfl ?_
    refine x_get (j := 0) (v := .ref (h0 + 269)) hx hb hown hT hE hW cls_X11 (Or.inl (by decide)) (so_268 h0 g _) (by decide) rfl wq1185 dX11_judge_42 ?_
    refine x_iconst hx hb dX11_judge_45 ?_
    refine x_iload_n hx hb hl 1 rfl dX11_judge_46 rfl ?_
    refine x_isub hx hb dX11_judge_47 ?_
    refine x_iald hx hb hE hW (Or.inl (by decide)) (sa_269 h0 g _) (by omega) (by decide) dX11_judge_48 ?_
    refine x_rd hW (fun x36 ex36 rx36 => ?_)
    have bx36 : 0 ≤ x36 ∧ x36 ≤ 99 := by rw [ex36]; exact (IMn.n1 p0).1 _ (by omega) (by omega)
    have V48 : x36 = s0 269 (1 - j) := ex36
    refine x_bipush hx hb dX11_judge_49 (by decide) ?_
    refine x_iload_n hx hb hl 3 rfl dX11_judge_51 rfl ?_
    refine x_imul hx hb dX11_judge_52 ?_
    refine x_iload_n hx hb hl 2 rfl dX11_judge_53 rfl ?_
    refine x_iadd hx hb dX11_judge_54 ?_
    refine x_icmp_ne (tgt := 60) hx hb rx36 (by omega) dX11_judge_55 (by decide) (fun c37 => ?_) (fun c37 => ?_)
    · skip
      refine x_aload_n hx hb hl 0 rfl dX11_judge_60 rfl ?_
      refine x_get (j := 0) (v := .ref (h0 + 269)) hx hb hown hT hE hW cls_X11 (Or.inl (by decide)) (so_268 h0 g _) (by decide) rfl wq1185 dX11_judge_61 ?_
      refine x_bipush hx hb dX11_judge_64 (by decide) ?_
      refine x_aload_n hx hb hl 0 rfl dX11_judge_66 rfl ?_
      refine x_get (j := 0) (v := .ref (h0 + 269)) hx hb hown hT hE hW cls_X11 (Or.inl (by decide)) (so_268 h0 g _) (by decide) rfl wq1185 dX11_judge_67 ?_
      refine x_bipush hx hb dX11_judge_70 (by decide) ?_
      refine x_iald hx hb hE hW (Or.inl (by decide)) (sa_269 h0 g _) ⟨by decide, by decide⟩ (by decide) dX11_judge_72 ?_
      refine x_rd hW (fun x38 ex38 rx38 => ?_)
      have V72 : x38 = s0 269 34 := ex38
      refine x_iconst hx hb dX11_judge_73 ?_
      refine x_iload_n hx hb hl 1 rfl dX11_judge_74 rfl ?_
      refine lv_ishl hx hb dX11_judge_75 ?_
      refine x_anyE (fun x39 ex39 rx39 => ?_)
      have V75 := ex39
      refine lv_ior hx hb dX11_judge_76 ?_
      refine x_anyE (fun x40 ex40 rx40 => ?_)
      have V76 : x40 = zor (s0 269 34) j := by
        rw [← V72]
        exact zor_j (by omega) (by omega) V75 rx40 ex40
      refine x_iast hx hb hE hW (by decide) (fun σ => sa_269 h0 g σ) ⟨by decide, by decide⟩ (by decide) rx40 dX11_judge_77 (fun H locs s41 es41 hW => ?_)
      have q42 : IMn s41 := by rw [es41]; exact IMn_N269 p0 (by omega)
      have q43 : IMk s41 := by rw [es41]; exact IMk_o (by unfold suIMk; first | decide | omega) p1
      have q44 : IMo s41 := by rw [es41]; exact IMo_o (by unfold suIMo; first | decide | omega) p2
      have q45 : s41 268 8 = s0 268 8 := (show s41 268 8 = s0 268 8 from by rw [es41, xU_k _ _ _ (by first | decide | omega)]).trans k268_8
      have q46 : s41 268 58 = s0 268 58 := (show s41 268 58 = s0 268 58 from by rw [es41, xU_k _ _ _ (by first | decide | omega)]).trans k268_58
      have q47 : s41 269 37 = s0 269 37 := (show s41 269 37 = s0 269 37 from by rw [es41, xU_j _ _ (by decide)]).trans k269_37
      have hF48 := hF.put es41 (by omega)
      have E77 := es41
      refine x_aload_n hx hb hl 0 rfl dX11_judge_78 rfl ?_
      refine x_get (j := 0) (v := .ref (h0 + 269)) hx hb hown hT hE hW cls_X11 (Or.inl (by decide)) (so_268 h0 g _) (by decide) rfl wq1185 dX11_judge_79 ?_
      refine x_iconst hx hb dX11_judge_82 ?_
      refine x_iload_n hx hb hl 1 rfl dX11_judge_83 rfl ?_
      refine x_iadd hx hb dX11_judge_84 ?_
      refine x_bipush hx hb dX11_judge_85 (by decide) ?_
      refine x_iload_n hx hb hl 3 rfl dX11_judge_87 rfl ?_
      refine x_imul hx hb dX11_judge_88 ?_
      refine x_iload_n hx hb hl 2 rfl dX11_judge_89 rfl ?_
      refine x_iadd hx hb dX11_judge_90 ?_
      refine x_iast hx hb hE hW (by decide) (fun σ => sa_269 h0 g σ) (by omega) (by decide) (by omega) dX11_judge_91 (fun H locs s49 es49 hW => ?_)
      have q50 : IMn s49 := by rw [es49]; exact IMn_N269 q42 (by omega)
      have q51 : IMk s49 := by rw [es49]; exact IMk_o (by unfold suIMk; first | decide | omega) q43
      have q52 : IMo s49 := by rw [es49]; exact IMo_o (by unfold suIMo; first | decide | omega) q44
      have q53 : s49 268 8 = s0 268 8 := (show s49 268 8 = s41 268 8 from by rw [es49, xU_k _ _ _ (by first | decide | omega)]).trans q45
      have q54 : s49 268 58 = s0 268 58 := (show s49 268 58 = s41 268 58 from by rw [es49, xU_k _ _ _ (by first | decide | omega)]).trans q46
      have q55 : s49 269 37 = s0 269 37 := (show s49 269 37 = s41 269 37 from by rw [es49, xU_j _ _ (by omega)]).trans q47
      have hF56 := hF48.put es49 (by omega)
      have E91 := es49
      refine x_iconst hx hb dX11_judge_92 ?_
      rw [eQ]
      exact x_zret hx hb hr hlk hW (by omega) ⟨hF56, ⟨q50, q51, q52, q55, trivial⟩, (by
          have z : zrj (s0 269) (1 - j) ≠ 10 * y + x := by
            first
              | (rw [zrj_n (by omega)]; omega)
              | (rw [zrj_p (by omega)]; omega)
          exact Or.inl ⟨rfl, by omega, by rw [E91, xU_xud, E77, xU_xud, V76, show (0 + j : Int) = j from by omega]⟩)⟩ dX11_judge_93
    refine x_iconst hx hb dX11_judge_58 ?_
    rw [eQ]
    exact x_zret hx hb hr hlk hW (by omega) ⟨hF, ⟨p0, p1, p2, k269_37, trivial⟩, Or.inr ⟨rfl, (by have z := zrj_p (N := s0 269) (j := 1 - j) (by omega); omega), rfl⟩⟩ dX11_judge_59
  refine x_iconst hx hb dX11_judge_29 ?_
  rw [eQ]
  exact x_zret hx hb hr hlk hW (by omega) ⟨hF, ⟨p0, p1, p2, k269_37, trivial⟩, Or.inr ⟨rfl, by omega, rfl⟩⟩ dX11_judge_30
set_option maxHeartbeats 4000000 in
set_option maxRecDepth 100000 in
theorem c_X11_copiesWalksJK (l : Launch) (D : va_G) (g : xG) (T : Nat × Nat × Nat) (h0 : Nat) (s0 : xS) (hσ : xRR s0) (hb8 : ∀ q : Int, 0 ≤ q → q < 120 → 0 ≤ s0 275 q ∧ s0 275 q ≤ 8) (p0 : IMn s0) (p1 : IMk s0) (p2 : IMo s0) : Met l yX11_copiesWalks (xws yX11_copiesWalks cX11_copiesWalks 5 none) { frames := 0, cells := 0, slots := 0, locals := 0 } (xP [.ref (h0 + 274), .ref (h0 + 275), .ref (h0 + 308), .ref (h0 + 309)] D g T h0 s0) (xQv D g h0 (fun τ => xFr (fun k => k = 308 ∨ k = 309) s0 τ ∧ (((IMn τ) ∧ (IMk τ) ∧ (IMo τ) ∧ True) ∧ ((∀ q : Int, 0 ≤ q → q < 2 → τ 308 q = s0 274 q) ∧ ∀ q : Int, 0 ≤ q → q < 120 → τ 309 q = s0 275 q)))) 0 0 (xA h0) := by
  refine x_met hσ (by decide) (Nat.le_of_ble_eq_true rfl) ?_
  intro p e s m args below meth c hx hb hr hml hown hT hlk hnm hE hW ls hl
  have hl : lv_has ls 5 [(0, .ref (h0 + 274)), (1, .ref (h0 + 275)), (2, .ref (h0 + 308)), (3, .ref (h0 + 309))] := hl
  obtain ⟨Q, eQ⟩ : ∃ Q, Q = MQ below (xQv D g h0 (fun τ => xFr (fun k => k = 308 ∨ k = 309) s0 τ ∧ (((IMn τ) ∧ (IMk τ) ∧ (IMo τ) ∧ True) ∧ ((∀ q : Int, 0 ≤ q → q < 2 → τ 308 q = s0 274 q) ∧ ∀ q : Int, 0 ≤ q → q < 120 → τ 309 q = s0 275 q)))) args s 0 0 (xA h0) := ⟨_, rfl⟩
  rw [← eQ]
  generalize hHe : ([] : List Loc) = locs at hW ⊢
  obtain ⟨H, eH⟩ : ∃ H, H = s.heap := ⟨_, rfl⟩
  rw [← eH] at hW ⊢
  have hF : xFr (fun k => k = 308 ∨ k = 309) s0 s0 := xFr.rf
  have k268_8 : s0 268 8 = s0 268 8 := rfl
  have k268_58 : s0 268 58 = s0 268 58 := rfl
  refine x_iconst hx hb dX11_copiesWalks_0 ?_
  refine lv_istore (lv' := [(4, .int (xJ 0)), (0, .ref (h0 + 274)), (1, .ref (h0 + 275)), (2, .ref (h0 + 308)), (3, .ref (h0 + 309))]) hx hb dX11_copiesWalks_1 hl (by decide) rfl (fun ls hl => ?_)
  have L3 : ∀ (fu : Nat) (i4_3 : Int) (s_3 : xS) (H : Heap) (locs : List Loc) (ls : Array Slot), (xR i4_3) → (xFr (fun k => k = 308 ∨ k = 309) s0 s_3) → (IMn s_3) → (IMk s_3) → (IMo s_3) → (s_3 268 8 = s0 268 8) → (s_3 268 58 = s0 268 58) → (0 ≤ i4_3) → (i4_3 ≤ 2) → (∀ q : Int, 0 ≤ q → q < i4_3 → s_3 308 q = s0 274 q) → (2 + 1 - i4_3).toNat < fu → xW D g h0 s H locs s_3 → lv_has ls 5 [(0, .ref (h0 + 274)), (1, .ref (h0 + 275)), (2, .ref (h0 + 308)), (3, .ref (h0 + 309)), (4, .int (xJ i4_3))] → W p l e { frames := 0, cells := 0, slots := 0, locals := 0 } s m args below meth c H locs 0 0 Q (F0 m 3 ls []) := by
    intro fu
    induction fu with
    | zero => intro i4_3 s_3 H locs ls ri4_3 hF_3 q3_0 q3_1 q3_2 q3_3 q3_4 v3_0 v3_1 v3_2 hm; exact absurd hm (Nat.not_lt_zero _)
    | succ fu ih3 =>
      intro i4_3 s_3 H locs ls ri4_3 hF_3 q3_0 q3_1 q3_2 q3_3 q3_4 v3_0 v3_1 v3_2 hm hW hl
      have hm_3 := fun (_ : Unit) => hm
      clear hm
      refine x_iload hx hb hl 4 rfl dX11_copiesWalks_3 ?_
      refine x_iconst hx hb dX11_copiesWalks_5 ?_
      refine x_icmp_ge (tgt := 23) hx hb ri4_3 (by decide) dX11_copiesWalks_6 (by decide) (fun c1 => ?_) (fun c1 => ?_)
      · skip
        refine x_iconst hx hb dX11_copiesWalks_23 ?_
        refine lv_istore (lv' := [(4, .int (xJ 0)), (0, .ref (h0 + 274)), (1, .ref (h0 + 275)), (2, .ref (h0 + 308)), (3, .ref (h0 + 309))]) hx hb dX11_copiesWalks_24 hl (by decide) rfl (fun ls hl => ?_)
        have L26 : ∀ (fu : Nat) (i4_26 : Int) (s_26 : xS) (H : Heap) (locs : List Loc) (ls : Array Slot), (xR i4_26) → (xFr (fun k => k = 308 ∨ k = 309) s0 s_26) → (IMn s_26) → (IMk s_26) → (IMo s_26) → (s_26 268 8 = s0 268 8) → (s_26 268 58 = s0 268 58) → (0 ≤ i4_26) → (i4_26 ≤ 120) → (∀ q : Int, 0 ≤ q → q < 2 → s_26 308 q = s0 274 q) → (∀ q : Int, 0 ≤ q → q < i4_26 → s_26 309 q = s0 275 q) → (120 + 1 - i4_26).toNat < fu → xW D g h0 s H locs s_26 → lv_has ls 5 [(1, .ref (h0 + 275)), (3, .ref (h0 + 309)), (4, .int (xJ i4_26))] → W p l e { frames := 0, cells := 0, slots := 0, locals := 0 } s m args below meth c H locs 0 0 Q (F0 m 26 ls []) := by
          intro fu
          induction fu with
          | zero => intro i4_26 s_26 H locs ls ri4_26 hF_26 q26_0 q26_1 q26_2 q26_3 q26_4 v26_0 v26_1 v26_2 v26_3 hm; exact absurd hm (Nat.not_lt_zero _)
          | succ fu ih26 =>
            intro i4_26 s_26 H locs ls ri4_26 hF_26 q26_0 q26_1 q26_2 q26_3 q26_4 v26_0 v26_1 v26_2 v26_3 hm hW hl
            have hm_26 := fun (_ : Unit) => hm
            clear hm
            refine x_iload hx hb hl 2 rfl dX11_copiesWalks_26 ?_
            refine x_bipush hx hb dX11_copiesWalks_28 (by decide) ?_
            refine x_icmp_ge (tgt := 47) hx hb ri4_26 (by decide) dX11_copiesWalks_30 (by decide) (fun c2 => ?_) (fun c2 => ?_)
            · skip
              rw [eQ]
              exact x_vret hx hb hr hlk hW ⟨hF_26, ⟨q26_0, q26_1, q26_2, trivial⟩, ⟨v26_2, fun q q1 q2 => v26_3 q q1 (by omega)⟩⟩ dX11_copiesWalks_47
            refine x_aload_n hx hb hl 1 rfl dX11_copiesWalks_33 rfl ?_
            refine x_iload hx hb hl 2 rfl dX11_copiesWalks_34 ?_
            refine x_aload_n hx hb hl 0 rfl dX11_copiesWalks_36 rfl ?_
            refine x_iload hx hb hl 2 rfl dX11_copiesWalks_37 ?_
            refine x_bald hx hb hE hW (Or.inl (by decide)) (sa_275 h0 g _) (by omega) (by decide) dX11_copiesWalks_39 ?_
            refine x_rd hW (fun x3 ex3 rx3 => ?_)
            have V39 : x3 = s0 275 i4_26 := by rw [ex3, hF_26 275 (by first | decide | omega)]
            obtain ⟨y5, ey5, ry5, my5, by5⟩ := xnbm (v := x3) rx3
            refine x_bast (w := y5) hx hb hE hW (by decide) (fun σ => sa_309 h0 g σ) (by omega) (by decide) ey5 ry5 dX11_copiesWalks_40 (fun H locs s4 es4 hW => ?_)
            have q6 : IMn s4 := by rw [es4]; exact IMn_o (by unfold suIMn; first | decide | omega) q26_0
            have q7 : IMk s4 := by rw [es4]; exact IMk_o (by unfold suIMk; first | decide | omega) q26_1
            have q8 : IMo s4 := by rw [es4]; exact IMo_o (by unfold suIMo; first | decide | omega) q26_2
            have q9 : s4 268 8 = s0 268 8 := (show s4 268 8 = s_26 268 8 from by rw [es4, xU_k _ _ _ (by first | decide | omega)]).trans q26_3
            have q10 : s4 268 58 = s0 268 58 := (show s4 268 58 = s_26 268 58 from by rw [es4, xU_k _ _ _ (by first | decide | omega)]).trans q26_4
            have hF11 := hF_26.put es4 (by omega)
            have E40 := es4
            refine x_iinc (lv' := [(4, .int (xJ (i4_26 + 1))), (1, .ref (h0 + 275)), (3, .ref (h0 + 309))]) hx hb hl 2 rfl dX11_copiesWalks_41 (by decide) rfl (fun ls hl => ?_)
            refine lv_goto (tgt := 26) hx hb dX11_copiesWalks_44 (by decide) ?_
            exact ih26 (i4_26 + 1) s4 H locs ls (by omega) hF11 q6 q7 q8 q9 q10 (by omega) (by omega) (by rw [E40, xU_k _ _ _ (by first | decide | omega)]; exact v26_2) (fun q q1 q2 => (Classical.em (q < i4_26)).elim (fun h => by rw [E40, xU_j _ _ (by omega)]; exact v26_3 q q1 h) (fun h => by rw [show q = i4_26 from by omega, E40, xU_s]; have y := hb8 i4_26 (by omega) (by omega); omega)) (by have hm := hm_26 (); omega) hW (lv_sub hl [1, 2, 0] rfl)
        exact L26 ((120 + 1 - 0 : Int).toNat + 1) 0 s_3 H locs ls (by decide) hF_3 q3_0 q3_1 q3_2 q3_3 q3_4 (by omega) (by omega) (fun q q1 q2 => v3_2 q q1 (by omega)) (fun q q1 q2 => absurd q2 (by omega)) (Nat.lt_succ_self _) hW (lv_sub hl [2, 4, 0] rfl)
      refine x_aload_n hx hb hl 2 rfl dX11_copiesWalks_9 rfl ?_
      refine x_iload hx hb hl 4 rfl dX11_copiesWalks_10 ?_
      refine x_aload_n hx hb hl 0 rfl dX11_copiesWalks_12 rfl ?_
      refine x_iload hx hb hl 4 rfl dX11_copiesWalks_13 ?_
      refine x_iald hx hb hE hW (Or.inl (by decide)) (sa_274 h0 g _) (by omega) (by decide) dX11_copiesWalks_15 ?_
      refine x_rd hW (fun x12 ex12 rx12 => ?_)
      have bx12 : 0 ≤ x12 ∧ x12 ≤ 60 := by rw [ex12]; exact IMn.w q3_0 _ (by omega) (by omega)
      have V15 : x12 = s0 274 i4_3 := by rw [ex12, hF_3 274 (by first | decide | omega)]
      refine x_iast hx hb hE hW (by decide) (fun σ => sa_308 h0 g σ) (by omega) (by decide) rx12 dX11_copiesWalks_16 (fun H locs s13 es13 hW => ?_)
      have q14 : IMn s13 := by rw [es13]; exact IMn_308 q3_0 (by omega)
      have q15 : IMk s13 := by rw [es13]; exact IMk_o (by unfold suIMk; first | decide | omega) q3_1
      have q16 : IMo s13 := by rw [es13]; exact IMo_o (by unfold suIMo; first | decide | omega) q3_2
      have q17 : s13 268 8 = s0 268 8 := (show s13 268 8 = s_3 268 8 from by rw [es13, xU_k _ _ _ (by first | decide | omega)]).trans q3_3
      have q18 : s13 268 58 = s0 268 58 := (show s13 268 58 = s_3 268 58 from by rw [es13, xU_k _ _ _ (by first | decide | omega)]).trans q3_4
      have hF19 := hF_3.put es13 (by omega)
      have E16 := es13
      refine x_iinc (lv' := [(4, .int (xJ (i4_3 + 1))), (0, .ref (h0 + 274)), (1, .ref (h0 + 275)), (2, .ref (h0 + 308)), (3, .ref (h0 + 309))]) hx hb hl 4 rfl dX11_copiesWalks_17 (by decide) rfl (fun ls hl => ?_)
      refine lv_goto (tgt := 3) hx hb dX11_copiesWalks_20 (by decide) ?_
      exact ih3 (i4_3 + 1) s13 H locs ls (by omega) hF19 q14 q15 q16 q17 q18 (by omega) (by omega) (fun q q1 q2 => (Classical.em (q < i4_3)).elim (fun h => by rw [E16, xU_j _ _ (by omega)]; exact v3_2 q q1 h) (fun h => by rw [show q = i4_3 from by omega, E16, xU_s, V15])) (by have hm := hm_3 (); omega) hW (lv_sub hl [1, 2, 3, 4, 0] rfl)
  exact L3 ((2 + 1 - 0 : Int).toNat + 1) 0 s0 H locs ls (by decide) hF p0 p1 p2 k268_8 k268_58 (by omega) (by omega) (fun q q1 q2 => absurd q2 (by omega)) (Nat.lt_succ_self _) hW (lv_sub hl [1, 2, 3, 4, 0] rfl)
set_option maxHeartbeats 4000000 in
set_option maxRecDepth 100000 in
theorem c_X11_copiesWalksJU (l : Launch) (D : va_G) (g : xG) (T : Nat × Nat × Nat) (h0 : Nat) (s0 : xS) (hσ : xRR s0) (hb8 : ∀ q : Int, 0 ≤ q → q < 120 → 0 ≤ s0 309 q ∧ s0 309 q ≤ 8) (p0 : IMn s0) (p1 : IMk s0) (p2 : IMo s0) : Met l yX11_copiesWalks (xws yX11_copiesWalks cX11_copiesWalks 5 none) { frames := 0, cells := 0, slots := 0, locals := 0 } (xP [.ref (h0 + 308), .ref (h0 + 309), .ref (h0 + 274), .ref (h0 + 275)] D g T h0 s0) (xQv D g h0 (fun τ => xFr (fun k => k = 274 ∨ k = 275) s0 τ ∧ (((IMn τ) ∧ (IMk τ) ∧ (IMo τ) ∧ True) ∧ ((∀ q : Int, 0 ≤ q → q < 2 → τ 274 q = s0 308 q) ∧ ∀ q : Int, 0 ≤ q → q < 120 → τ 275 q = s0 309 q)))) 0 0 (xA h0) := by
  refine x_met hσ (by decide) (Nat.le_of_ble_eq_true rfl) ?_
  intro p e s m args below meth c hx hb hr hml hown hT hlk hnm hE hW ls hl
  have hl : lv_has ls 5 [(0, .ref (h0 + 308)), (1, .ref (h0 + 309)), (2, .ref (h0 + 274)), (3, .ref (h0 + 275))] := hl
  obtain ⟨Q, eQ⟩ : ∃ Q, Q = MQ below (xQv D g h0 (fun τ => xFr (fun k => k = 274 ∨ k = 275) s0 τ ∧ (((IMn τ) ∧ (IMk τ) ∧ (IMo τ) ∧ True) ∧ ((∀ q : Int, 0 ≤ q → q < 2 → τ 274 q = s0 308 q) ∧ ∀ q : Int, 0 ≤ q → q < 120 → τ 275 q = s0 309 q)))) args s 0 0 (xA h0) := ⟨_, rfl⟩
  rw [← eQ]
  generalize hHe : ([] : List Loc) = locs at hW ⊢
  obtain ⟨H, eH⟩ : ∃ H, H = s.heap := ⟨_, rfl⟩
  rw [← eH] at hW ⊢
  have hF : xFr (fun k => k = 274 ∨ k = 275) s0 s0 := xFr.rf
  have k268_8 : s0 268 8 = s0 268 8 := rfl
  have k268_58 : s0 268 58 = s0 268 58 := rfl
  refine x_iconst hx hb dX11_copiesWalks_0 ?_
  refine lv_istore (lv' := [(4, .int (xJ 0)), (0, .ref (h0 + 308)), (1, .ref (h0 + 309)), (2, .ref (h0 + 274)), (3, .ref (h0 + 275))]) hx hb dX11_copiesWalks_1 hl (by decide) rfl (fun ls hl => ?_)
  have L3 : ∀ (fu : Nat) (i4_3 : Int) (s_3 : xS) (H : Heap) (locs : List Loc) (ls : Array Slot), (xR i4_3) → (xFr (fun k => k = 274 ∨ k = 275) s0 s_3) → (IMn s_3) → (IMk s_3) → (IMo s_3) → (s_3 268 8 = s0 268 8) → (s_3 268 58 = s0 268 58) → (0 ≤ i4_3) → (i4_3 ≤ 2) → (∀ q : Int, 0 ≤ q → q < i4_3 → s_3 274 q = s0 308 q) → (2 + 1 - i4_3).toNat < fu → xW D g h0 s H locs s_3 → lv_has ls 5 [(0, .ref (h0 + 308)), (1, .ref (h0 + 309)), (2, .ref (h0 + 274)), (3, .ref (h0 + 275)), (4, .int (xJ i4_3))] → W p l e { frames := 0, cells := 0, slots := 0, locals := 0 } s m args below meth c H locs 0 0 Q (F0 m 3 ls []) := by
    intro fu
    induction fu with
    | zero => intro i4_3 s_3 H locs ls ri4_3 hF_3 q3_0 q3_1 q3_2 q3_3 q3_4 v3_0 v3_1 v3_2 hm; exact absurd hm (Nat.not_lt_zero _)
    | succ fu ih3 =>
      intro i4_3 s_3 H locs ls ri4_3 hF_3 q3_0 q3_1 q3_2 q3_3 q3_4 v3_0 v3_1 v3_2 hm hW hl
      have hm_3 := fun (_ : Unit) => hm
      clear hm
      refine x_iload hx hb hl 4 rfl dX11_copiesWalks_3 ?_
      refine x_iconst hx hb dX11_copiesWalks_5 ?_
      refine x_icmp_ge (tgt := 23) hx hb ri4_3 (by decide) dX11_copiesWalks_6 (by decide) (fun c1 => ?_) (fun c1 => ?_)
      · skip
        refine x_iconst hx hb dX11_copiesWalks_23 ?_
        refine lv_istore (lv' := [(4, .int (xJ 0)), (0, .ref (h0 + 308)), (1, .ref (h0 + 309)), (2, .ref (h0 + 274)), (3, .ref (h0 + 275))]) hx hb dX11_copiesWalks_24 hl (by decide) rfl (fun ls hl => ?_)
        have L26 : ∀ (fu : Nat) (i4_26 : Int) (s_26 : xS) (H : Heap) (locs : List Loc) (ls : Array Slot), (xR i4_26) → (xFr (fun k => k = 274 ∨ k = 275) s0 s_26) → (IMn s_26) → (IMk s_26) → (IMo s_26) → (s_26 268 8 = s0 268 8) → (s_26 268 58 = s0 268 58) → (0 ≤ i4_26) → (i4_26 ≤ 120) → (∀ q : Int, 0 ≤ q → q < 2 → s_26 274 q = s0 308 q) → (∀ q : Int, 0 ≤ q → q < i4_26 → s_26 275 q = s0 309 q) → (120 + 1 - i4_26).toNat < fu → xW D g h0 s H locs s_26 → lv_has ls 5 [(1, .ref (h0 + 309)), (3, .ref (h0 + 275)), (4, .int (xJ i4_26))] → W p l e { frames := 0, cells := 0, slots := 0, locals := 0 } s m args below meth c H locs 0 0 Q (F0 m 26 ls []) := by
          intro fu
          induction fu with
          | zero => intro i4_26 s_26 H locs ls ri4_26 hF_26 q26_0 q26_1 q26_2 q26_3 q26_4 v26_0 v26_1 v26_2 v26_3 hm; exact absurd hm (Nat.not_lt_zero _)
          | succ fu ih26 =>
            intro i4_26 s_26 H locs ls ri4_26 hF_26 q26_0 q26_1 q26_2 q26_3 q26_4 v26_0 v26_1 v26_2 v26_3 hm hW hl
            have hm_26 := fun (_ : Unit) => hm
            clear hm
            refine x_iload hx hb hl 2 rfl dX11_copiesWalks_26 ?_
            refine x_bipush hx hb dX11_copiesWalks_28 (by decide) ?_
            refine x_icmp_ge (tgt := 47) hx hb ri4_26 (by decide) dX11_copiesWalks_30 (by decide) (fun c2 => ?_) (fun c2 => ?_)
            · skip
              rw [eQ]
              exact x_vret hx hb hr hlk hW ⟨hF_26, ⟨q26_0, q26_1, q26_2, trivial⟩, ⟨v26_2, fun q q1 q2 => v26_3 q q1 (by omega)⟩⟩ dX11_copiesWalks_47
            refine x_aload_n hx hb hl 1 rfl dX11_copiesWalks_33 rfl ?_
            refine x_iload hx hb hl 2 rfl dX11_copiesWalks_34 ?_
            refine x_aload_n hx hb hl 0 rfl dX11_copiesWalks_36 rfl ?_
            refine x_iload hx hb hl 2 rfl dX11_copiesWalks_37 ?_
            refine x_bald hx hb hE hW (Or.inl (by decide)) (sa_309 h0 g _) (by omega) (by decide) dX11_copiesWalks_39 ?_
            refine x_rd hW (fun x3 ex3 rx3 => ?_)
            have V39 : x3 = s0 309 i4_26 := by rw [ex3, hF_26 309 (by first | decide | omega)]
            obtain ⟨y5, ey5, ry5, my5, by5⟩ := xnbm (v := x3) rx3
            refine x_bast (w := y5) hx hb hE hW (by decide) (fun σ => sa_275 h0 g σ) (by omega) (by decide) ey5 ry5 dX11_copiesWalks_40 (fun H locs s4 es4 hW => ?_)
            have q6 : IMn s4 := by rw [es4]; exact IMn_o (by unfold suIMn; first | decide | omega) q26_0
            have q7 : IMk s4 := by rw [es4]; exact IMk_o (by unfold suIMk; first | decide | omega) q26_1
            have q8 : IMo s4 := by rw [es4]; exact IMo_o (by unfold suIMo; first | decide | omega) q26_2
            have q9 : s4 268 8 = s0 268 8 := (show s4 268 8 = s_26 268 8 from by rw [es4, xU_k _ _ _ (by first | decide | omega)]).trans q26_3
            have q10 : s4 268 58 = s0 268 58 := (show s4 268 58 = s_26 268 58 from by rw [es4, xU_k _ _ _ (by first | decide | omega)]).trans q26_4
            have hF11 := hF_26.put es4 (by omega)
            have E40 := es4
            refine x_iinc (lv' := [(4, .int (xJ (i4_26 + 1))), (1, .ref (h0 + 309)), (3, .ref (h0 + 275))]) hx hb hl 2 rfl dX11_copiesWalks_41 (by decide) rfl (fun ls hl => ?_)
            refine lv_goto (tgt := 26) hx hb dX11_copiesWalks_44 (by decide) ?_
            exact ih26 (i4_26 + 1) s4 H locs ls (by omega) hF11 q6 q7 q8 q9 q10 (by omega) (by omega) (by rw [E40, xU_k _ _ _ (by first | decide | omega)]; exact v26_2) (fun q q1 q2 => (Classical.em (q < i4_26)).elim (fun h => by rw [E40, xU_j _ _ (by omega)]; exact v26_3 q q1 h) (fun h => by rw [show q = i4_26 from by omega, E40, xU_s]; have y := hb8 i4_26 (by omega) (by omega); omega)) (by have hm := hm_26 (); omega) hW (lv_sub hl [1, 2, 0] rfl)
        exact L26 ((120 + 1 - 0 : Int).toNat + 1) 0 s_3 H locs ls (by decide) hF_3 q3_0 q3_1 q3_2 q3_3 q3_4 (by omega) (by omega) (fun q q1 q2 => v3_2 q q1 (by omega)) (fun q q1 q2 => absurd q2 (by omega)) (Nat.lt_succ_self _) hW (lv_sub hl [2, 4, 0] rfl)
      refine x_aload_n hx hb hl 2 rfl dX11_copiesWalks_9 rfl ?_
      refine x_iload hx hb hl 4 rfl dX11_copiesWalks_10 ?_
      refine x_aload_n hx hb hl 0 rfl dX11_copiesWalks_12 rfl ?_
      refine x_iload hx hb hl 4 rfl dX11_copiesWalks_13 ?_
      refine x_iald hx hb hE hW (Or.inl (by decide)) (sa_308 h0 g _) (by omega) (by decide) dX11_copiesWalks_15 ?_
      refine x_rd hW (fun x12 ex12 rx12 => ?_)
      have bx12 : 0 ≤ x12 ∧ x12 ≤ 60 := by rw [ex12]; exact IMn.v q3_0 _ (by omega) (by omega)
      have V15 : x12 = s0 308 i4_3 := by rw [ex12, hF_3 308 (by first | decide | omega)]
      refine x_iast hx hb hE hW (by decide) (fun σ => sa_274 h0 g σ) (by omega) (by decide) rx12 dX11_copiesWalks_16 (fun H locs s13 es13 hW => ?_)
      have q14 : IMn s13 := by rw [es13]; exact IMn_274 q3_0 (by omega)
      have q15 : IMk s13 := by rw [es13]; exact IMk_o (by unfold suIMk; first | decide | omega) q3_1
      have q16 : IMo s13 := by rw [es13]; exact IMo_o (by unfold suIMo; first | decide | omega) q3_2
      have q17 : s13 268 8 = s0 268 8 := (show s13 268 8 = s_3 268 8 from by rw [es13, xU_k _ _ _ (by first | decide | omega)]).trans q3_3
      have q18 : s13 268 58 = s0 268 58 := (show s13 268 58 = s_3 268 58 from by rw [es13, xU_k _ _ _ (by first | decide | omega)]).trans q3_4
      have hF19 := hF_3.put es13 (by omega)
      have E16 := es13
      refine x_iinc (lv' := [(4, .int (xJ (i4_3 + 1))), (0, .ref (h0 + 308)), (1, .ref (h0 + 309)), (2, .ref (h0 + 274)), (3, .ref (h0 + 275))]) hx hb hl 4 rfl dX11_copiesWalks_17 (by decide) rfl (fun ls hl => ?_)
      refine lv_goto (tgt := 3) hx hb dX11_copiesWalks_20 (by decide) ?_
      exact ih3 (i4_3 + 1) s13 H locs ls (by omega) hF19 q14 q15 q16 q17 q18 (by omega) (by omega) (fun q q1 q2 => (Classical.em (q < i4_3)).elim (fun h => by rw [E16, xU_j _ _ (by omega)]; exact v3_2 q q1 h) (fun h => by rw [show q = i4_3 from by omega, E16, xU_s, V15])) (by have hm := hm_3 (); omega) hW (lv_sub hl [1, 2, 3, 4, 0] rfl)
  exact L3 ((2 + 1 - 0 : Int).toNat + 1) 0 s0 H locs ls (by decide) hF p0 p1 p2 k268_8 k268_58 (by omega) (by omega) (fun q q1 q2 => absurd q2 (by omega)) (Nat.lt_succ_self _) hW (lv_sub hl [1, 2, 3, 4, 0] rfl)
set_option maxHeartbeats 4000000 in
set_option maxRecDepth 100000 in
theorem c_X11_keepJ (l : Launch) (D : va_G) (g : xG) (T : Nat × Nat × Nat) (h0 : Nat) (s0 : xS) (hσ : xRR s0) (hb8 : ∀ q : Int, 0 ≤ q → q < 120 → 0 ≤ s0 275 q ∧ s0 275 q ≤ 8) (p0 : IMn s0) (p1 : IMk s0) (p2 : IMo s0) : Met l yX11_keep (xws yX11_keep cX11_keep 1 (some .int)) { frames := 1, cells := 0, slots := 0, locals := 24 } (xP [.ref (h0 + 268)] D g T h0 s0) (xQi D g h0 (fun r τ => xFr (fun k => k = 268 ∨ k = 271 ∨ k = 308 ∨ k = 309) s0 τ ∧ (((IMn τ) ∧ (IMk τ) ∧ (IMo τ) ∧ (τ 268 8 = s0 268 8) ∧ (τ 268 17 = s0 268 17) ∧ (τ 268 48 = s0 268 48) ∧ True) ∧ (τ 268 58 = 1 ∧ τ 271 37 = s0 269 37 ∧ r = s0 269 37 ∧ (∀ q : Int, 0 ≤ q → q < 39 → τ 271 q = s0 269 q) ∧ (∀ q : Int, 0 ≤ q → q < 2 → τ 308 q = s0 274 q) ∧ ∀ q : Int, 0 ≤ q → q < 120 → τ 309 q = s0 275 q)))) 0 0 (xA h0) := by
  refine x_met hσ (by decide) (Nat.le_of_ble_eq_true rfl) ?_
  intro p e s m args below meth c hx hb hr hml hown hT hlk hnm hE hW ls hl
  have hl : lv_has ls 1 [(0, .ref (h0 + 268))] := hl
  obtain ⟨Q, eQ⟩ : ∃ Q, Q = MQ below (xQi D g h0 (fun r τ => xFr (fun k => k = 268 ∨ k = 271 ∨ k = 308 ∨ k = 309) s0 τ ∧ (((IMn τ) ∧ (IMk τ) ∧ (IMo τ) ∧ (τ 268 8 = s0 268 8) ∧ (τ 268 17 = s0 268 17) ∧ (τ 268 48 = s0 268 48) ∧ True) ∧ (τ 268 58 = 1 ∧ τ 271 37 = s0 269 37 ∧ r = s0 269 37 ∧ (∀ q : Int, 0 ≤ q → q < 39 → τ 271 q = s0 269 q) ∧ (∀ q : Int, 0 ≤ q → q < 2 → τ 308 q = s0 274 q) ∧ ∀ q : Int, 0 ≤ q → q < 120 → τ 309 q = s0 275 q)))) args s 0 0 (xA h0) := ⟨_, rfl⟩
  rw [← eQ]
  generalize hHe : ([] : List Loc) = locs at hW ⊢
  obtain ⟨H, eH⟩ : ∃ H, H = s.heap := ⟨_, rfl⟩
  rw [← eH] at hW ⊢
  have hF : xFr (fun k => k = 268 ∨ k = 271 ∨ k = 308 ∨ k = 309) s0 s0 := xFr.rf
  have k268_8 : s0 268 8 = s0 268 8 := rfl
  have k268_17 : s0 268 17 = s0 268 17 := rfl
  have k268_48 : s0 268 48 = s0 268 48 := rfl
  have k268_58 : s0 268 58 = s0 268 58 := rfl
  have k269_0 : s0 269 0 = s0 269 0 := rfl
  have k269_1 : s0 269 1 = s0 269 1 := rfl
  have k269_2 : s0 269 2 = s0 269 2 := rfl
  have k269_3 : s0 269 3 = s0 269 3 := rfl
  have k269_34 : s0 269 34 = s0 269 34 := rfl
  have k269_37 : s0 269 37 = s0 269 37 := rfl
  refine x_aload_n hx hb hl 0 rfl dX11_keep_0 rfl ?_
  refine x_iconst hx hb dX11_keep_1 ?_
  refine x_put (j := 58) hx hb hown hT hE hW cls_X11 (by decide) (fun σ => so_268 h0 g σ) (by decide) (st_X11_58 h0 s0 268 1) (ln_X11_58 h0 _ _) wq1243 rfl rfl rfl (by decide) dX11_keep_2 (fun H locs s1 es1 hW => ?_)
  have q2 : IMn s1 := by rw [es1]; exact IMn_268 p0 (by omega)
  have q3 : IMk s1 := by rw [es1]; exact IMk_268 p1 (by omega)
  have q4 : IMo s1 := by rw [es1]; exact IMo_o (by unfold suIMo; first | decide | omega) p2
  have q5 : s1 268 8 = s0 268 8 := (show s1 268 8 = s0 268 8 from by rw [es1, xU_j _ _ (by decide)]).trans k268_8
  have q6 : s1 268 17 = s0 268 17 := (show s1 268 17 = s0 268 17 from by rw [es1, xU_j _ _ (by decide)]).trans k268_17
  have q7 : s1 268 48 = s0 268 48 := (show s1 268 48 = s0 268 48 from by rw [es1, xU_j _ _ (by decide)]).trans k268_48
  have q8 : s1 268 58 = 1 := by rw [es1, xU_s]
  have q9 : s1 269 0 = s0 269 0 := (show s1 269 0 = s0 269 0 from by rw [es1, xU_k _ _ _ (by first | decide | omega)]).trans k269_0
  have q10 : s1 269 1 = s0 269 1 := (show s1 269 1 = s0 269 1 from by rw [es1, xU_k _ _ _ (by first | decide | omega)]).trans k269_1
  have q11 : s1 269 2 = s0 269 2 := (show s1 269 2 = s0 269 2 from by rw [es1, xU_k _ _ _ (by first | decide | omega)]).trans k269_2
  have q12 : s1 269 3 = s0 269 3 := (show s1 269 3 = s0 269 3 from by rw [es1, xU_k _ _ _ (by first | decide | omega)]).trans k269_3
  have q13 : s1 269 34 = s0 269 34 := (show s1 269 34 = s0 269 34 from by rw [es1, xU_k _ _ _ (by first | decide | omega)]).trans k269_34
  have q14 : s1 269 37 = s0 269 37 := (show s1 269 37 = s0 269 37 from by rw [es1, xU_k _ _ _ (by first | decide | omega)]).trans k269_37
  have hF15 := hF.put es1 (by omega)
  refine x_aload_n hx hb hl 0 rfl dX11_keep_5 rfl ?_
  refine x_get (j := 0) (v := .ref (h0 + 269)) hx hb hown hT hE hW cls_X11 (Or.inl (by decide)) (so_268 h0 g _) (by decide) rfl wq1185 dX11_keep_6 ?_
  refine x_aload_n hx hb hl 0 rfl dX11_keep_9 rfl ?_
  refine x_get (j := 2) (v := .ref (h0 + 271)) hx hb hown hT hE hW cls_X11 (Or.inl (by decide)) (so_268 h0 g _) (by decide) rfl wq1187 dX11_keep_10 ?_
  refine x_gov (x_runS (As := [.ref (h0 + 269), .ref (h0 + 271)]) hx hb hml hown hT hE hW hl.1 cf_X11_copies wq1647 wq1646 (c_X11_copiesMK l D g T h0 s1 hW.2.1 q2 q3 q4) ⟨rfl, rfl, ⟨by decide, by decide⟩, ⟨by decide, by decide⟩⟩ rfl rfl (Nat.le_of_ble_eq_true rfl) dX11_keep_13) hW (fun s17 H locs hp18 hW => ?_)
  obtain ⟨fs17, hp18⟩ := hp18
  have hF19 := hF15.call fs17 (fun k h => by omega)
  have q20 : s17 268 8 = s0 268 8 := (congrFun (fs17 _ (by omega)) _).trans q5
  have q21 : s17 268 17 = s0 268 17 := (congrFun (fs17 _ (by omega)) _).trans q6
  have q22 : s17 268 48 = s0 268 48 := (congrFun (fs17 _ (by omega)) _).trans q7
  have q23 : s17 268 58 = 1 := (congrFun (fs17 _ (by omega)) _).trans q8
  have q24 : s17 269 0 = s0 269 0 := (congrFun (fs17 _ (by omega)) _).trans q9
  have q25 : s17 269 1 = s0 269 1 := (congrFun (fs17 _ (by omega)) _).trans q10
  have q26 : s17 269 2 = s0 269 2 := (congrFun (fs17 _ (by omega)) _).trans q11
  have q27 : s17 269 3 = s0 269 3 := (congrFun (fs17 _ (by omega)) _).trans q12
  have q28 : s17 269 34 = s0 269 34 := (congrFun (fs17 _ (by omega)) _).trans q13
  have q29 : s17 269 37 = s0 269 37 := (congrFun (fs17 _ (by omega)) _).trans q14
  have ghp18 := hp18.2
  have q30 : s17 271 37 = s0 269 37 := (ghp18 37 (by decide) (by decide)).trans ((congrFun (fs17 269 (by first | decide | omega)) 37).symm.trans q29)
  have A13 : ∀ q : Int, 0 ≤ q → q < 39 → s17 271 q = s0 269 q := fun q a b => (ghp18 q a b).trans ((congrFun (fs17 269 (by first | decide | omega)) q).symm.trans (congrFun (hF19 269 (by first | decide | omega)) q))
  have G13 : s17 274 = s0 274 ∧ s17 275 = s0 275 := ⟨hF19 274 (by first | decide | omega), hF19 275 (by first | decide | omega)⟩
  refine x_aload_n hx hb hl 0 rfl dX11_keep_16 rfl ?_
  refine x_get (j := 5) (v := .ref (h0 + 274)) hx hb hown hT hE hW cls_X11 (Or.inl (by decide)) (so_268 h0 g _) (by decide) rfl wq1190 dX11_keep_17 ?_
  refine x_aload_n hx hb hl 0 rfl dX11_keep_20 rfl ?_
  refine x_get (j := 6) (v := .ref (h0 + 275)) hx hb hown hT hE hW cls_X11 (Or.inl (by decide)) (so_268 h0 g _) (by decide) rfl wq1191 dX11_keep_21 ?_
  refine x_aload_n hx hb hl 0 rfl dX11_keep_24 rfl ?_
  refine x_get (j := 59) (v := .ref (h0 + 308)) hx hb hown hT hE hW cls_X11 (Or.inl (by decide)) (so_268 h0 g _) (by decide) rfl wq1244 dX11_keep_25 ?_
  refine x_aload_n hx hb hl 0 rfl dX11_keep_28 rfl ?_
  refine x_get (j := 60) (v := .ref (h0 + 309)) hx hb hown hT hE hW cls_X11 (Or.inl (by decide)) (so_268 h0 g _) (by decide) rfl wq1245 dX11_keep_29 ?_
  refine x_gov (x_runS (As := [.ref (h0 + 274), .ref (h0 + 275), .ref (h0 + 308), .ref (h0 + 309)]) hx hb hml hown hT hE hW hl.1 cf_X11_copiesWalks wq1764 wq1763 (c_X11_copiesWalksJK l D g T h0 s17 hW.2.1 (by rw [G13.2]; exact hb8) hp18.1.1 hp18.1.2.1 hp18.1.2.2.1) ⟨rfl, rfl, ⟨by decide, by decide⟩, ⟨by decide, by decide⟩⟩ rfl rfl (Nat.le_of_ble_eq_true rfl) dX11_keep_32) hW (fun s32 H locs hp33 hW => ?_)
  obtain ⟨fs32, hp33⟩ := hp33
  have hF34 := hF19.call fs32 (fun k h => by omega)
  have q35 : s32 268 8 = s0 268 8 := (congrFun (fs32 _ (by omega)) _).trans q20
  have q36 : s32 268 17 = s0 268 17 := (congrFun (fs32 _ (by omega)) _).trans q21
  have q37 : s32 268 48 = s0 268 48 := (congrFun (fs32 _ (by omega)) _).trans q22
  have q38 : s32 268 58 = 1 := (congrFun (fs32 _ (by omega)) _).trans q23
  have q39 : s32 269 0 = s0 269 0 := (congrFun (fs32 _ (by omega)) _).trans q24
  have q40 : s32 269 1 = s0 269 1 := (congrFun (fs32 _ (by omega)) _).trans q25
  have q41 : s32 269 2 = s0 269 2 := (congrFun (fs32 _ (by omega)) _).trans q26
  have q42 : s32 269 3 = s0 269 3 := (congrFun (fs32 _ (by omega)) _).trans q27
  have q43 : s32 269 34 = s0 269 34 := (congrFun (fs32 _ (by omega)) _).trans q28
  have q44 : s32 269 37 = s0 269 37 := (congrFun (fs32 _ (by omega)) _).trans q29
  have q45 : s32 271 37 = s0 269 37 := (congrFun (fs32 _ (by omega)) _).trans q30
  have ghp33 := hp33.2
  have A32 : ∀ q : Int, 0 ≤ q → q < 39 → s32 271 q = s0 269 q := fun q a b => (congrFun (fs32 271 (by first | decide | omega)) q).trans (A13 q a b)
  have B32 : (∀ q : Int, 0 ≤ q → q < 2 → s32 308 q = s0 274 q) ∧ ∀ q : Int, 0 ≤ q → q < 120 → s32 309 q = s0 275 q := by
    have y := ghp33
    rw [G13.1, G13.2] at y
    exact y
  refine x_aload_n hx hb hl 0 rfl dX11_keep_35 rfl ?_
  refine x_get (j := 0) (v := .ref (h0 + 269)) hx hb hown hT hE hW cls_X11 (Or.inl (by decide)) (so_268 h0 g _) (by decide) rfl wq1185 dX11_keep_36 ?_
  refine x_bipush hx hb dX11_keep_39 (by decide) ?_
  refine x_iald hx hb hE hW (Or.inl (by decide)) (sa_269 h0 g _) ⟨by decide, by decide⟩ (by decide) dX11_keep_41 ?_
  refine x_rd hW (fun x46 ex46 rx46 => ?_)
  have bx46 : 0 ≤ x46 ∧ x46 ≤ 9999 := by rw [ex46]; exact (IMn.n1 hp33.1.1).2.2.2.1
  have fx46 : x46 = s0 269 37 := ex46.trans q44
  rw [eQ]
  exact x_iret hx hb hr hlk hW rx46 ⟨hF34, ⟨hp33.1.1, hp33.1.2.1, hp33.1.2.2.1, q35, q36, q37, trivial⟩, ⟨by omega, by omega, by omega, A32, B32⟩⟩ dX11_keep_42
set_option maxHeartbeats 4000000 in
set_option maxRecDepth 100000 in
theorem c_X11_undoJ (l : Launch) (D : va_G) (g : xG) (T : Nat × Nat × Nat) (h0 : Nat) (s0 : xS) (hσ : xRR s0) (hb8 : ∀ q : Int, 0 ≤ q → q < 120 → 0 ≤ s0 309 q ∧ s0 309 q ≤ 8) (p0 : IMn s0) (p1 : IMk s0) (p2 : IMo s0) : Met l yX11_undo (xws yX11_undo cX11_undo 1 (some .boolean)) { frames := 1, cells := 0, slots := 0, locals := 24 } (xP [.ref (h0 + 268)] D g T h0 s0) (xQi D g h0 (fun r τ => xFr (fun k => k = 269 ∨ k = 274 ∨ k = 275) s0 τ ∧ (((IMn τ) ∧ (IMk τ) ∧ (IMo τ) ∧ True) ∧ ((s0 268 58 = 0 ∧ r = 0 ∧ τ 269 37 = s0 269 37 ∧ τ 269 = s0 269 ∧ τ 274 = s0 274 ∧ τ 275 = s0 275) ∨ (s0 268 58 ≠ 0 ∧ r = 1 ∧ τ 269 37 = s0 271 37 ∧ (∀ q : Int, 0 ≤ q → q < 39 → τ 269 q = s0 271 q) ∧ (∀ q : Int, 0 ≤ q → q < 2 → τ 274 q = s0 308 q) ∧ ∀ q : Int, 0 ≤ q → q < 120 → τ 275 q = s0 309 q))))) 0 0 (xA h0) := by
  refine x_met hσ (by decide) (Nat.le_of_ble_eq_true rfl) ?_
  intro p e s m args below meth c hx hb hr hml hown hT hlk hnm hE hW ls hl
  have hl : lv_has ls 1 [(0, .ref (h0 + 268))] := hl
  obtain ⟨Q, eQ⟩ : ∃ Q, Q = MQ below (xQi D g h0 (fun r τ => xFr (fun k => k = 269 ∨ k = 274 ∨ k = 275) s0 τ ∧ (((IMn τ) ∧ (IMk τ) ∧ (IMo τ) ∧ True) ∧ ((s0 268 58 = 0 ∧ r = 0 ∧ τ 269 37 = s0 269 37 ∧ τ 269 = s0 269 ∧ τ 274 = s0 274 ∧ τ 275 = s0 275) ∨ (s0 268 58 ≠ 0 ∧ r = 1 ∧ τ 269 37 = s0 271 37 ∧ (∀ q : Int, 0 ≤ q → q < 39 → τ 269 q = s0 271 q) ∧ (∀ q : Int, 0 ≤ q → q < 2 → τ 274 q = s0 308 q) ∧ ∀ q : Int, 0 ≤ q → q < 120 → τ 275 q = s0 309 q))))) args s 0 0 (xA h0) := ⟨_, rfl⟩
  rw [← eQ]
  generalize hHe : ([] : List Loc) = locs at hW ⊢
  obtain ⟨H, eH⟩ : ∃ H, H = s.heap := ⟨_, rfl⟩
  rw [← eH] at hW ⊢
  have hF : xFr (fun k => k = 269 ∨ k = 274 ∨ k = 275) s0 s0 := xFr.rf
  have k268_8 : s0 268 8 = s0 268 8 := rfl
  have k268_58 : s0 268 58 = s0 268 58 := rfl
  have k268_17 : s0 268 17 = s0 268 17 := rfl
  have k268_48 : s0 268 48 = s0 268 48 := rfl
  have k268_58 : s0 268 58 = s0 268 58 := rfl
  have k271_37 : s0 271 37 = s0 271 37 := rfl
  have k269_37 : s0 269 37 = s0 269 37 := rfl
  refine x_aload_n hx hb hl 0 rfl dX11_undo_0 rfl ?_
  refine x_get (j := 58) (v := .int (xJ (s0 268 58))) hx hb hown hT hE hW cls_X11 (Or.inl (by decide)) (so_268 h0 g _) (by decide) rfl wq1243 dX11_undo_1 ?_
  refine x_rd hW (fun x1 ex1 rx1 => ?_)
  have fx1 : x1 = s0 268 58 := ex1.trans k268_58
  refine x_if_ne (tgt := 9) hx hb rx1 dX11_undo_4 (by decide) (fun c2 => ?_) (fun c2 => ?_)
  · skip
    refine x_aload_n hx hb hl 0 rfl dX11_undo_9 rfl ?_
    refine x_get (j := 2) (v := .ref (h0 + 271)) hx hb hown hT hE hW cls_X11 (Or.inl (by decide)) (so_268 h0 g _) (by decide) rfl wq1187 dX11_undo_10 ?_
    refine x_aload_n hx hb hl 0 rfl dX11_undo_13 rfl ?_
    refine x_get (j := 0) (v := .ref (h0 + 269)) hx hb hown hT hE hW cls_X11 (Or.inl (by decide)) (so_268 h0 g _) (by decide) rfl wq1185 dX11_undo_14 ?_
    refine x_gov (x_runS (As := [.ref (h0 + 271), .ref (h0 + 269)]) hx hb hml hown hT hE hW hl.1 cf_X11_copies wq1647 wq1646 (c_X11_copiesMU l D g T h0 s0 hW.2.1 p0 p1 p2) ⟨rfl, rfl, ⟨by decide, by decide⟩, ⟨by decide, by decide⟩⟩ rfl rfl (Nat.le_of_ble_eq_true rfl) dX11_undo_17) hW (fun s4 H locs hp5 hW => ?_)
    obtain ⟨fs4, hp5⟩ := hp5
    have hF6 := hF.call fs4 (fun k h => by omega)
    have q7 : s4 268 8 = s0 268 8 := (congrFun (fs4 _ (by omega)) _).trans k268_8
    have q8 : s4 268 58 = s0 268 58 := (congrFun (fs4 _ (by omega)) _).trans k268_58
    have q9 : s4 268 17 = s0 268 17 := (congrFun (fs4 _ (by omega)) _).trans k268_17
    have q10 : s4 268 48 = s0 268 48 := (congrFun (fs4 _ (by omega)) _).trans k268_48
    have q11 : s4 271 37 = s0 271 37 := (congrFun (fs4 _ (by omega)) _).trans k271_37
    have ghp5 := hp5.2
    have q12 : s4 269 37 = s0 271 37 := (ghp5 37 (by decide) (by decide)).trans ((congrFun (fs4 271 (by first | decide | omega)) 37).symm.trans q11)
    have A17 : ∀ q : Int, 0 ≤ q → q < 39 → s4 269 q = s0 271 q := fun q a b => (ghp5 q a b).trans ((congrFun (fs4 271 (by first | decide | omega)) q).symm.trans (congrFun (hF6 271 (by first | decide | omega)) q))
    have G17 : s4 308 = s0 308 ∧ s4 309 = s0 309 := ⟨hF6 308 (by first | decide | omega), hF6 309 (by first | decide | omega)⟩
    refine x_aload_n hx hb hl 0 rfl dX11_undo_20 rfl ?_
    refine x_get (j := 59) (v := .ref (h0 + 308)) hx hb hown hT hE hW cls_X11 (Or.inl (by decide)) (so_268 h0 g _) (by decide) rfl wq1244 dX11_undo_21 ?_
    refine x_aload_n hx hb hl 0 rfl dX11_undo_24 rfl ?_
    refine x_get (j := 60) (v := .ref (h0 + 309)) hx hb hown hT hE hW cls_X11 (Or.inl (by decide)) (so_268 h0 g _) (by decide) rfl wq1245 dX11_undo_25 ?_
    refine x_aload_n hx hb hl 0 rfl dX11_undo_28 rfl ?_
    refine x_get (j := 5) (v := .ref (h0 + 274)) hx hb hown hT hE hW cls_X11 (Or.inl (by decide)) (so_268 h0 g _) (by decide) rfl wq1190 dX11_undo_29 ?_
    refine x_aload_n hx hb hl 0 rfl dX11_undo_32 rfl ?_
    refine x_get (j := 6) (v := .ref (h0 + 275)) hx hb hown hT hE hW cls_X11 (Or.inl (by decide)) (so_268 h0 g _) (by decide) rfl wq1191 dX11_undo_33 ?_
    refine x_gov (x_runS (As := [.ref (h0 + 308), .ref (h0 + 309), .ref (h0 + 274), .ref (h0 + 275)]) hx hb hml hown hT hE hW hl.1 cf_X11_copiesWalks wq1764 wq1763 (c_X11_copiesWalksJU l D g T h0 s4 hW.2.1 (by rw [G17.2]; exact hb8) hp5.1.1 hp5.1.2.1 hp5.1.2.2.1) ⟨rfl, rfl, ⟨by decide, by decide⟩, ⟨by decide, by decide⟩⟩ rfl rfl (Nat.le_of_ble_eq_true rfl) dX11_undo_36) hW (fun s14 H locs hp15 hW => ?_)
    obtain ⟨fs14, hp15⟩ := hp15
    have hF16 := hF6.call fs14 (fun k h => by omega)
    have q17 : s14 268 8 = s0 268 8 := (congrFun (fs14 _ (by omega)) _).trans q7
    have q18 : s14 268 58 = s0 268 58 := (congrFun (fs14 _ (by omega)) _).trans q8
    have q19 : s14 268 17 = s0 268 17 := (congrFun (fs14 _ (by omega)) _).trans q9
    have q20 : s14 268 48 = s0 268 48 := (congrFun (fs14 _ (by omega)) _).trans q10
    have q21 : s14 271 37 = s0 271 37 := (congrFun (fs14 _ (by omega)) _).trans q11
    have q22 : s14 269 37 = s0 271 37 := (congrFun (fs14 _ (by omega)) _).trans q12
    have ghp15 := hp15.2
    have A36 : ∀ q : Int, 0 ≤ q → q < 39 → s14 269 q = s0 271 q := fun q a b => (congrFun (fs14 269 (by first | decide | omega)) q).trans (A17 q a b)
    have B36 : (∀ q : Int, 0 ≤ q → q < 2 → s14 274 q = s0 308 q) ∧ ∀ q : Int, 0 ≤ q → q < 120 → s14 275 q = s0 309 q := by
      have y := ghp15
      rw [G17.1, G17.2] at y
      exact y
    refine x_iconst hx hb dX11_undo_39 ?_
    rw [eQ]
    exact x_zret hx hb hr hlk hW (by omega) ⟨hF16, ⟨hp15.1.1, hp15.1.2.1, hp15.1.2.2.1, trivial⟩, Or.inr ⟨by omega, by omega, by omega, A36, B36⟩⟩ dX11_undo_40
  refine x_iconst hx hb dX11_undo_7 ?_
  rw [eQ]
  exact x_zret hx hb hr hlk hW (by omega) ⟨hF, ⟨p0, p1, p2, trivial⟩, Or.inl ⟨by omega, by omega, by omega, rfl, rfl, rfl⟩⟩ dX11_undo_8



set_option maxHeartbeats 4000000 in
set_option maxRecDepth 100000 in
theorem c_X11_repeatsJ (l : Launch) (D : va_G) (g : xG) (T : Nat × Nat × Nat) (h0 : Nat) (s0 : xS) (hσ : xRR s0) (a : Int) (ra : xR a) (b : Int) (rb : xR b) (q : Int) (rq : xR q) (ha0 : 0 ≤ a ∧ a ≤ s0 268 34 ∧ s0 268 34 ≤ 60) (hb0 : 1 ≤ b ∧ b ≤ 9) (hq0 : 0 ≤ q ∧ q ≤ 300) (hb8 : ∀ q : Int, 0 ≤ q → q < s0 268 34 → 0 ≤ s0 289 q ∧ s0 289 q ≤ 8) (p0 : IMn s0) (p1 : IMk s0) (p2 : IMo s0) (p3 : IR s0) : Met l yX11_repeats (xws yX11_repeats cX11_repeats 6 (some .boolean)) { frames := 1, cells := 0, slots := 0, locals := 22 } (xP [.ref (h0 + 268), .int (xJ a), .int (xJ b), .int (xJ q)] D g T h0 s0) (xQi D g h0 (fun r τ => xFr (fun k => k = 268 ∨ k = 289) s0 τ ∧ (((IMn τ) ∧ (IMk τ) ∧ (IMo τ) ∧ (IR τ) ∧ (τ 268 8 = s0 268 8) ∧ (τ 268 58 = s0 268 58) ∧ (τ 268 10 = s0 268 10) ∧ (τ 268 9 = s0 268 9) ∧ (τ 268 35 = s0 268 35) ∧ (τ 268 36 = s0 268 36) ∧ (τ 268 37 = s0 268 37) ∧ (τ 268 17 = s0 268 17) ∧ (τ 268 48 = s0 268 48) ∧ True) ∧ ((r = 1 ∧ s0 268 34 + (b - 1) * (s0 268 34 - a) ≤ 60 ∧ τ 268 34 = s0 268 34 + (b - 1) * (s0 268 34 - a) ∧ τ 289 = wrep (s0 289) a (s0 268 34) ((b - 1) * (s0 268 34 - a))) ∨ (r = 0 ∧ 60 < s0 268 34 + (b - 1) * (s0 268 34 - a) ∧ τ 268 34 = s0 268 34 ∧ τ 268 11 = -6000 - q))))) 0 0 (xA h0) := by
  refine x_met hσ (by decide) (Nat.le_of_ble_eq_true rfl) ?_
  intro p e s m args below meth c hx hb hr hml hown hT hlk hnm hE hW ls hl
  have hl : lv_has ls 6 [(0, .ref (h0 + 268)), (1, .int (xJ a)), (2, .int (xJ b)), (3, .int (xJ q))] := hl
  obtain ⟨Q, eQ⟩ : ∃ Q, Q = MQ below (xQi D g h0 (fun r τ => xFr (fun k => k = 268 ∨ k = 289) s0 τ ∧ (((IMn τ) ∧ (IMk τ) ∧ (IMo τ) ∧ (IR τ) ∧ (τ 268 8 = s0 268 8) ∧ (τ 268 58 = s0 268 58) ∧ (τ 268 10 = s0 268 10) ∧ (τ 268 9 = s0 268 9) ∧ (τ 268 35 = s0 268 35) ∧ (τ 268 36 = s0 268 36) ∧ (τ 268 37 = s0 268 37) ∧ (τ 268 17 = s0 268 17) ∧ (τ 268 48 = s0 268 48) ∧ True) ∧ ((r = 1 ∧ s0 268 34 + (b - 1) * (s0 268 34 - a) ≤ 60 ∧ τ 268 34 = s0 268 34 + (b - 1) * (s0 268 34 - a) ∧ τ 289 = wrep (s0 289) a (s0 268 34) ((b - 1) * (s0 268 34 - a))) ∨ (r = 0 ∧ 60 < s0 268 34 + (b - 1) * (s0 268 34 - a) ∧ τ 268 34 = s0 268 34 ∧ τ 268 11 = -6000 - q))))) args s 0 0 (xA h0) := ⟨_, rfl⟩
  rw [← eQ]
  generalize hHe : ([] : List Loc) = locs at hW ⊢
  obtain ⟨H, eH⟩ : ∃ H, H = s.heap := ⟨_, rfl⟩
  rw [← eH] at hW ⊢
  have hF : xFr (fun k => k = 268 ∨ k = 289) s0 s0 := xFr.rf
  have k268_8 : s0 268 8 = s0 268 8 := rfl
  have k268_58 : s0 268 58 = s0 268 58 := rfl
  have k268_10 : s0 268 10 = s0 268 10 := rfl
  have k268_9 : s0 268 9 = s0 268 9 := rfl
  have k268_35 : s0 268 35 = s0 268 35 := rfl
  have k268_36 : s0 268 36 = s0 268 36 := rfl
  have k268_37 : s0 268 37 = s0 268 37 := rfl
  have k268_17 : s0 268 17 = s0 268 17 := rfl
  have k268_48 : s0 268 48 = s0 268 48 := rfl
  have k268_34 : s0 268 34 = s0 268 34 := rfl
  refine x_aload_n hx hb hl 0 rfl dX11_repeats_0 rfl ?_
  refine x_get (j := 34) (v := .int (xJ (s0 268 34))) hx hb hown hT hE hW cls_X11 (Or.inl (by decide)) (so_268 h0 g _) (by decide) rfl wq1219 dX11_repeats_1 ?_
  refine x_rd hW (fun x1 ex1 rx1 => ?_)
  have fx1 : x1 = s0 268 34 := ex1.trans k268_34
  refine x_iload_n hx hb hl 1 rfl dX11_repeats_4 rfl ?_
  refine x_isub hx hb dX11_repeats_5 ?_
  refine x_nm (fun x2 ex2 => ?_)
  refine lv_istore (lv' := [(4, .int (xJ x2)), (0, .ref (h0 + 268)), (1, .int (xJ a)), (2, .int (xJ b)), (3, .int (xJ q))]) hx hb dX11_repeats_6 hl (by decide) rfl (fun ls hl => ?_)
  have X6 : x2 = s0 268 34 - a := by omega
  have Y6 : x2 * b = (b - 1) * (s0 268 34 - a) + (s0 268 34 - a) := by rw [X6]; exact wmul2 _ _ _
  have m6 := xmulb (by omega : -1 ≤ b ∧ b ≤ 9) (by omega : -60 ≤ x2 ∧ x2 ≤ 60)
  rw [Int.mul_comm] at m6
  have n6 : 0 ≤ (b - 1) * (s0 268 34 - a) := Int.mul_nonneg (by omega) (by omega)
  refine x_iload_n hx hb hl 2 rfl dX11_repeats_8 rfl ?_
  refine x_iload hx hb hl 0 rfl dX11_repeats_9 ?_
  refine x_iload_n hx hb hl 3 rfl dX11_repeats_11 rfl ?_
  refine x_imul hx hb dX11_repeats_12 ?_
  refine x_iadd hx hb dX11_repeats_13 ?_
  refine x_bipush hx hb dX11_repeats_14 (by decide) ?_
  refine x_icmp_le (tgt := 27) hx hb (by omega) (by decide) dX11_repeats_16 (by decide) (fun c3 => ?_) (fun c3 => ?_)
  · skip
    refine x_iload hx hb hl 0 rfl dX11_repeats_27 ?_
    refine lv_istore (lv' := [(5, .int (xJ x2)), (4, .int (xJ x2)), (0, .ref (h0 + 268)), (1, .int (xJ a)), (2, .int (xJ b)), (3, .int (xJ q))]) hx hb dX11_repeats_29 hl (by decide) rfl (fun ls hl => ?_)
    have L31 : ∀ (fu : Nat) (i5_31 : Int) (s_31 : xS) (H : Heap) (locs : List Loc) (ls : Array Slot), (xR i5_31) → (xFr (fun k => k = 268 ∨ k = 289) s0 s_31) → (IMn s_31) → (IMk s_31) → (IMo s_31) → (IR s_31) → (s_31 268 8 = s0 268 8) → (s_31 268 58 = s0 268 58) → (s_31 268 10 = s0 268 10) → (s_31 268 9 = s0 268 9) → (s_31 268 35 = s0 268 35) → (s_31 268 36 = s0 268 36) → (s_31 268 37 = s0 268 37) → (s_31 268 17 = s0 268 17) → (s_31 268 48 = s0 268 48) → (s_31 268 34 = s0 268 34) → (x2 ≤ i5_31) → (s_31 289 = wrep (s0 289) a (s0 268 34) (i5_31 - x2)) → (i5_31 ≤ x2 * b) → (x2 * b - i5_31).toNat < fu → xW D g h0 s H locs s_31 → lv_has ls 6 [(0, .ref (h0 + 268)), (1, .int (xJ a)), (2, .int (xJ b)), (4, .int (xJ x2)), (5, .int (xJ i5_31))] → W p l e { frames := 1, cells := 0, slots := 0, locals := 22 } s m args below meth c H locs 0 0 Q (F0 m 31 ls []) := by
      intro fu
      induction fu with
      | zero => intro i5_31 s_31 H locs ls ri5_31 hF_31 q31_0 q31_1 q31_2 q31_3 q31_4 q31_5 q31_6 q31_7 q31_8 q31_9 q31_10 q31_11 q31_12 q31_13 v31_0 v31_1 v31_2 hm; exact absurd hm (Nat.not_lt_zero _)
      | succ fu ih31 =>
        intro i5_31 s_31 H locs ls ri5_31 hF_31 q31_0 q31_1 q31_2 q31_3 q31_4 q31_5 q31_6 q31_7 q31_8 q31_9 q31_10 q31_11 q31_12 q31_13 v31_0 v31_1 v31_2 hm hW hl
        have hm_31 := fun (_ : Unit) => hm
        clear hm
        refine x_iload hx hb hl 4 rfl dX11_repeats_31 ?_
        refine x_iload hx hb hl 3 rfl dX11_repeats_33 ?_
        refine x_iload_n hx hb hl 2 rfl dX11_repeats_35 rfl ?_
        refine x_imul hx hb dX11_repeats_36 ?_
        refine x_icmp_ge (tgt := 67) hx hb ri5_31 (by omega) dX11_repeats_37 (by decide) (fun c4 => ?_) (fun c4 => ?_)
        · skip
          refine x_aload_n hx hb hl 0 rfl dX11_repeats_67 rfl ?_
          refine x_iload_n hx hb hl 1 rfl dX11_repeats_68 rfl ?_
          refine x_iload hx hb hl 3 rfl dX11_repeats_69 ?_
          refine x_iload_n hx hb hl 2 rfl dX11_repeats_71 rfl ?_
          refine x_imul hx hb dX11_repeats_72 ?_
          refine x_iadd hx hb dX11_repeats_73 ?_
          refine x_put (j := 34) hx hb hown hT hE hW cls_X11 (by decide) (fun σ => so_268 h0 g σ) (by decide) (st_X11_34 h0 s_31 268 (a + (x2 * b))) (ln_X11_34 h0 _ _) wq1219 rfl rfl rfl (by omega) dX11_repeats_74 (fun H locs s5 es5 hW => ?_)
          have q6 : IMn s5 := by rw [es5]; exact IMn_268 q31_0 (by omega)
          have q7 : IMk s5 := by rw [es5]; exact IMk_268 q31_1 (by omega)
          have q8 : IMo s5 := by rw [es5]; exact IMo_o (by unfold suIMo; first | decide | omega) q31_2
          have q9 : IR s5 := by rw [es5]; exact IR_268 q31_3 (by omega)
          have q10 : s5 268 8 = s0 268 8 := (show s5 268 8 = s_31 268 8 from by rw [es5, xU_j _ _ (by decide)]).trans q31_4
          have q11 : s5 268 58 = s0 268 58 := (show s5 268 58 = s_31 268 58 from by rw [es5, xU_j _ _ (by decide)]).trans q31_5
          have q12 : s5 268 10 = s0 268 10 := (show s5 268 10 = s_31 268 10 from by rw [es5, xU_j _ _ (by decide)]).trans q31_6
          have q13 : s5 268 9 = s0 268 9 := (show s5 268 9 = s_31 268 9 from by rw [es5, xU_j _ _ (by decide)]).trans q31_7
          have q14 : s5 268 35 = s0 268 35 := (show s5 268 35 = s_31 268 35 from by rw [es5, xU_j _ _ (by decide)]).trans q31_8
          have q15 : s5 268 36 = s0 268 36 := (show s5 268 36 = s_31 268 36 from by rw [es5, xU_j _ _ (by decide)]).trans q31_9
          have q16 : s5 268 37 = s0 268 37 := (show s5 268 37 = s_31 268 37 from by rw [es5, xU_j _ _ (by decide)]).trans q31_10
          have q17 : s5 268 17 = s0 268 17 := (show s5 268 17 = s_31 268 17 from by rw [es5, xU_j _ _ (by decide)]).trans q31_11
          have q18 : s5 268 48 = s0 268 48 := (show s5 268 48 = s_31 268 48 from by rw [es5, xU_j _ _ (by decide)]).trans q31_12
          have q19 : s5 268 34 = (a + (x2 * b)) := by rw [es5, xU_s]
          have hF20 := hF_31.put es5 (by omega)
          have E74 := es5
          refine x_iconst hx hb dX11_repeats_77 ?_
          rw [eQ]
          exact x_zret hx hb hr hlk hW (by omega) ⟨hF20, ⟨q6, q7, q8, q9, q10, q11, q12, q13, q14, q15, q16, q17, q18, trivial⟩, Or.inl ⟨by omega, by omega, by omega, by rw [E74, xU_k _ _ _ (by first | decide | omega)]; exact v31_1.trans (wrep_c (by omega))⟩⟩ dX11_repeats_78
        refine x_aload_n hx hb hl 0 rfl dX11_repeats_40 rfl ?_
        refine x_get (j := 30) (v := .ref (h0 + 289)) hx hb hown hT hE hW cls_X11 (Or.inl (by decide)) (so_268 h0 g _) (by decide) rfl wq1215 dX11_repeats_41 ?_
        refine x_iload_n hx hb hl 1 rfl dX11_repeats_44 rfl ?_
        refine x_iload hx hb hl 4 rfl dX11_repeats_45 ?_
        refine x_iadd hx hb dX11_repeats_47 ?_
        have p47 : 0 < x2 := by
          rcases Int.lt_or_le 0 x2 with h | h
          · exact h
          · have e : x2 = 0 := by omega
            have e0 : x2 * b = 0 := by rw [e, Int.zero_mul]
            omega
        refine x_aload_n hx hb hl 0 rfl dX11_repeats_48 rfl ?_
        refine x_get (j := 30) (v := .ref (h0 + 289)) hx hb hown hT hE hW cls_X11 (Or.inl (by decide)) (so_268 h0 g _) (by decide) rfl wq1215 dX11_repeats_49 ?_
        refine x_iload_n hx hb hl 1 rfl dX11_repeats_52 rfl ?_
        refine x_iload hx hb hl 4 rfl dX11_repeats_53 ?_
        refine x_iadd hx hb dX11_repeats_55 ?_
        refine x_iload hx hb hl 3 rfl dX11_repeats_56 ?_
        refine x_isub hx hb dX11_repeats_58 ?_
        refine x_bald hx hb hE hW (Or.inl (by decide)) (sa_289 h0 g _) (by omega) (by decide) dX11_repeats_59 ?_
        refine x_rd hW (fun x21 ex21 rx21 => ?_)
        have V59 : x21 = s_31 289 (a + (i5_31 - x2)) := ex21.trans (congrArg (s_31 289) (by omega))
        have R59 : 0 ≤ x21 ∧ x21 ≤ 8 := by
          rw [V59, v31_1, wrep_at (by omega) (by omega)]
          have q := Int.emod_nonneg (i5_31 - x2) (show s0 268 34 - a ≠ 0 from by omega)
          have q2 := Int.emod_lt_of_pos (i5_31 - x2) (show 0 < s0 268 34 - a from by omega)
          exact hb8 _ (by omega) (by omega)
        obtain ⟨y23, ey23, ry23, my23, by23⟩ := xnbm (v := x21) rx21
        refine x_bast (w := y23) hx hb hE hW (by decide) (fun σ => sa_289 h0 g σ) (by omega) (by decide) ey23 ry23 dX11_repeats_60 (fun H locs s22 es22 hW => ?_)
        have q24 : IMn s22 := by rw [es22]; exact IMn_o (by unfold suIMn; first | decide | omega) q31_0
        have q25 : IMk s22 := by rw [es22]; exact IMk_o (by unfold suIMk; first | decide | omega) q31_1
        have q26 : IMo s22 := by rw [es22]; exact IMo_o (by unfold suIMo; first | decide | omega) q31_2
        have q27 : IR s22 := by rw [es22]; exact IR_o (by unfold suIR; first | decide | omega) q31_3
        have q28 : s22 268 8 = s0 268 8 := (show s22 268 8 = s_31 268 8 from by rw [es22, xU_k _ _ _ (by first | decide | omega)]).trans q31_4
        have q29 : s22 268 58 = s0 268 58 := (show s22 268 58 = s_31 268 58 from by rw [es22, xU_k _ _ _ (by first | decide | omega)]).trans q31_5
        have q30 : s22 268 10 = s0 268 10 := (show s22 268 10 = s_31 268 10 from by rw [es22, xU_k _ _ _ (by first | decide | omega)]).trans q31_6
        have q31 : s22 268 9 = s0 268 9 := (show s22 268 9 = s_31 268 9 from by rw [es22, xU_k _ _ _ (by first | decide | omega)]).trans q31_7
        have q32 : s22 268 35 = s0 268 35 := (show s22 268 35 = s_31 268 35 from by rw [es22, xU_k _ _ _ (by first | decide | omega)]).trans q31_8
        have q33 : s22 268 36 = s0 268 36 := (show s22 268 36 = s_31 268 36 from by rw [es22, xU_k _ _ _ (by first | decide | omega)]).trans q31_9
        have q34 : s22 268 37 = s0 268 37 := (show s22 268 37 = s_31 268 37 from by rw [es22, xU_k _ _ _ (by first | decide | omega)]).trans q31_10
        have q35 : s22 268 17 = s0 268 17 := (show s22 268 17 = s_31 268 17 from by rw [es22, xU_k _ _ _ (by first | decide | omega)]).trans q31_11
        have q36 : s22 268 48 = s0 268 48 := (show s22 268 48 = s_31 268 48 from by rw [es22, xU_k _ _ _ (by first | decide | omega)]).trans q31_12
        have q37 : s22 268 34 = s0 268 34 := (show s22 268 34 = s_31 268 34 from by rw [es22, xU_k _ _ _ (by first | decide | omega)]).trans q31_13
        have hF38 := hF_31.put es22 (by omega)
        have A60 : s22 289 = wrep (s0 289) a (s0 268 34) (i5_31 - x2 + 1) := by
          rw [es22, xU_xud]
          exact wrep_s v31_1 (by omega) (by omega) (by omega) (by omega) rfl
        refine x_iinc (lv' := [(5, .int (xJ (i5_31 + 1))), (0, .ref (h0 + 268)), (1, .int (xJ a)), (2, .int (xJ b)), (4, .int (xJ x2))]) hx hb hl 4 rfl dX11_repeats_61 (by decide) rfl (fun ls hl => ?_)
        refine lv_goto (tgt := 31) hx hb dX11_repeats_64 (by decide) ?_
        exact ih31 (i5_31 + 1) s22 H locs ls (by omega) hF38 q24 q25 q26 q27 q28 q29 q30 q31 q32 q33 q34 q35 q36 q37 (by omega) (A60.trans (wrep_c (by omega))) (by omega) (by have hm := hm_31 (); omega) hW (lv_sub hl [1, 2, 3, 4, 0] rfl)
    exact L31 ((x2 * b - x2 : Int).toNat + 1) x2 s0 H locs ls (by omega) hF p0 p1 p2 p3 k268_8 k268_58 k268_10 k268_9 k268_35 k268_36 k268_37 k268_17 k268_48 k268_34 (by omega) ((wrep_0 _ _ _ (by omega)).symm) (by omega) (Nat.lt_succ_self _) hW (lv_sub hl [2, 3, 4, 1, 0] rfl)
  refine x_aload_n hx hb hl 1 rfl dX11_repeats_19 rfl ?_
  refine x_bipush hx hb dX11_repeats_20 (by decide) ?_
  refine x_iload_n hx hb hl 4 rfl dX11_repeats_22 rfl ?_
  refine x_goi (x_runV (As := [.int (xJ 6), .int (xJ q)]) hx hb hml hown hT hE hW hl.1 (Or.inl (by decide)) (so_268 h0 g _) rfl cf_X11_wrongAt wq1401 wq107 wq1399 (c_X11_wrongAtW l D g T h0 s0 hW.2.1 6 (by decide) q rq (by omega) p0 p1 p2 p3) ⟨rfl, rfl, ⟨by decide, by decide⟩, ⟨by decide, by decide⟩⟩ rfl rfl (Nat.le_of_ble_eq_true rfl) dX11_repeats_23) hW (fun x39 s40 H locs rx39 hp41 hW => ?_)
  obtain ⟨fs40, hp41⟩ := hp41
  have hF42 := hF.call fs40 (fun k h => by omega)
  have ghp41 := hp41.2
  rw [eQ]
  exact x_zret hx hb hr hlk hW (by omega) ⟨hF42, ⟨hp41.1.1, hp41.1.2.1, hp41.1.2.2.1, hp41.1.2.2.2.1, (hp41.1.2.2.2.2.1.trans k268_8), (hp41.1.2.2.2.2.2.1.trans k268_58), (hp41.1.2.2.2.2.2.2.1.trans k268_10), (hp41.1.2.2.2.2.2.2.2.1.trans k268_9), (hp41.1.2.2.2.2.2.2.2.2.2.1.trans k268_35), (hp41.1.2.2.2.2.2.2.2.2.2.2.1.trans k268_36), (hp41.1.2.2.2.2.2.2.2.2.2.2.2.1.trans k268_37), (hp41.1.2.2.2.2.2.2.2.2.2.2.2.2.1.trans k268_17), (hp41.1.2.2.2.2.2.2.2.2.2.2.2.2.2.1.trans k268_48), trivial⟩, Or.inr ⟨by omega, by omega, by omega, by omega⟩⟩ dX11_repeats_26
set_option maxHeartbeats 4000000 in
set_option maxRecDepth 100000 in
theorem c_X11_readsStepJ (l : Launch) (D : va_G) (g : xG) (T : Nat × Nat × Nat) (h0 : Nat) (s0 : xS) (hσ : xRR s0) (Z : Int × Int × (Int → Int)) (hrw : zRW s0) (hr0 : zR0 s0) (hz : zWY (xm8 (s0 276)) (s0 268 10) Z true (s0 268 9) (s0 268 34) (s0 289) (zst s0)) (p0 : IMn s0) (p1 : IMk s0) (p2 : IMo s0) (p3 : IR s0) : Met l yX11_readsStep (xws yX11_readsStep cX11_readsStep 4 (some .boolean)) { frames := 2, cells := 0, slots := 0, locals := 47 } (xP [.ref (h0 + 268)] D g T h0 s0) (xQi D g h0 (fun r τ => xFr (fun k => k = 268 ∨ k = 289 ∨ k = 290 ∨ k = 291 ∨ k = 292) s0 τ ∧ (((IMn τ) ∧ (IMk τ) ∧ (IMo τ) ∧ (IR τ) ∧ (τ 268 8 = s0 268 8) ∧ (τ 268 58 = s0 268 58) ∧ (τ 268 10 = s0 268 10) ∧ (τ 268 17 = s0 268 17) ∧ (τ 268 48 = s0 268 48) ∧ True) ∧ ((r = 0 ∧ s0 268 9 ≤ τ 268 9 ∧ Z.1 ≠ 0 ∧ τ 268 11 = Z.1) ∨ (r = 1 ∧ zRW τ ∧ zR0 τ ∧ s0 268 9 + 1 ≤ τ 268 9 ∧ zWY (xm8 (s0 276)) (s0 268 10) Z false (τ 268 9) (τ 268 34) (τ 289) (zst τ) ∧ (zch (xm8 (s0 276)) (s0 268 10) (τ 268 9) ≠ 41 ∨ τ 268 35 = 0)))))) 0 0 (xA h0) := by
  refine x_met hσ (by decide) (Nat.le_of_ble_eq_true rfl) ?_
  intro p e s m args below meth c hx hb hr hml hown hT hlk hnm hE hW ls hl
  have hl : lv_has ls 4 [(0, .ref (h0 + 268))] := hl
  obtain ⟨Q, eQ⟩ : ∃ Q, Q = MQ below (xQi D g h0 (fun r τ => xFr (fun k => k = 268 ∨ k = 289 ∨ k = 290 ∨ k = 291 ∨ k = 292) s0 τ ∧ (((IMn τ) ∧ (IMk τ) ∧ (IMo τ) ∧ (IR τ) ∧ (τ 268 8 = s0 268 8) ∧ (τ 268 58 = s0 268 58) ∧ (τ 268 10 = s0 268 10) ∧ (τ 268 17 = s0 268 17) ∧ (τ 268 48 = s0 268 48) ∧ True) ∧ ((r = 0 ∧ s0 268 9 ≤ τ 268 9 ∧ Z.1 ≠ 0 ∧ τ 268 11 = Z.1) ∨ (r = 1 ∧ zRW τ ∧ zR0 τ ∧ s0 268 9 + 1 ≤ τ 268 9 ∧ zWY (xm8 (s0 276)) (s0 268 10) Z false (τ 268 9) (τ 268 34) (τ 289) (zst τ) ∧ (zch (xm8 (s0 276)) (s0 268 10) (τ 268 9) ≠ 41 ∨ τ 268 35 = 0)))))) args s 0 0 (xA h0) := ⟨_, rfl⟩
  rw [← eQ]
  generalize hHe : ([] : List Loc) = locs at hW ⊢
  obtain ⟨H, eH⟩ : ∃ H, H = s.heap := ⟨_, rfl⟩
  rw [← eH] at hW ⊢
  have hF : xFr (fun k => k = 268 ∨ k = 289 ∨ k = 290 ∨ k = 291 ∨ k = 292) s0 s0 := xFr.rf
  have k268_8 : s0 268 8 = s0 268 8 := rfl
  have k268_58 : s0 268 58 = s0 268 58 := rfl
  have k268_10 : s0 268 10 = s0 268 10 := rfl
  have k268_17 : s0 268 17 = s0 268 17 := rfl
  have k268_48 : s0 268 48 = s0 268 48 := rfl
  have k268_9 : s0 268 9 = s0 268 9 := rfl
  have k268_34 : s0 268 34 = s0 268 34 := rfl
  have k268_35 : s0 268 35 = s0 268 35 := rfl
  have rw5 := hrw.2.1
  have rw4 := hrw.1
  have hr00 : 0 ≤ s0 268 9 ∧ s0 268 9 ≤ s0 268 10 ∧ s0 268 10 ≤ 240 := p3
  refine x_aload_n hx hb hl 0 rfl dX11_readsStep_0 rfl ?_
  refine x_gov (x_runV (As := []) hx hb hml hown hT hE hW hl.1 (Or.inl (by decide)) (so_268 h0 g _) rfl cf_X11_readsTimes wq1450 wq113 wq1448 (c_X11_readsTimesW l D g T h0 s0 hW.2.1 p0 p1 p2 p3) ⟨rfl, rfl, ⟨by decide, by decide⟩, ⟨by decide, by decide⟩⟩ rfl rfl (Nat.le_of_ble_eq_true rfl) dX11_readsStep_1) hW (fun s2 H locs hp3 hW => ?_)
  obtain ⟨fs2, hp3⟩ := hp3
  have hF4 := hF.call fs2 (fun k h => by omega)
  have ghp3 := hp3.2
  have A1 : (zRW s2 ∧ zR0 s2) ∧ zWY (xm8 (s0 276)) (s0 268 10) Z true (s2 268 36) (s2 268 34) (s2 289) (zst s2) ∧ (s2 268 37 = wtm (zch (xm8 (s0 276)) (s0 268 10) (s2 268 36)) ∧ s2 268 9 = wp1 (xm8 (s0 276)) (s0 268 10) (s2 268 36)) := by
    obtain ⟨h1, h2, h3⟩ := ghp3
    refine ⟨⟨hrw.f ⟨by omega, by omega⟩ ⟨by omega, by omega⟩ (fs2 291 (by first | decide | omega)) (fs2 292 (by first | decide | omega)), hr0.f (by omega) (fs2 290 (by first | decide | omega))⟩, ?_, ?_⟩
    · rw [zst_f (hp3.1.2.2.2.2.2.2.2.2.1.trans k268_35) (fs2 290 (by first | decide | omega)) (fs2 291 (by first | decide | omega)) (fs2 292 (by first | decide | omega)), h1, (hp3.1.2.2.2.2.2.2.2.1.trans k268_34), fs2 289 (by first | decide | omega)]; exact hz
    · rw [h1]; exact ⟨h2, h3⟩
  have H1 := ghp3
  have L4 : ∀ (fu : Nat) (s_4 : xS) (H : Heap) (locs : List Loc) (ls : Array Slot), (xFr (fun k => k = 268 ∨ k = 289 ∨ k = 290 ∨ k = 291 ∨ k = 292) s0 s_4) → (IMn s_4) → (IMk s_4) → (IMo s_4) → (IR s_4) → (s_4 268 8 = s0 268 8) → (s_4 268 58 = s0 268 58) → (s_4 268 10 = s0 268 10) → (s_4 268 34 = s0 268 34) → (s_4 268 17 = s0 268 17) → (s_4 268 48 = s0 268 48) → (zRW s_4 ∧ zR0 s_4) → (zWY (xm8 (s0 276)) (s0 268 10) Z true (s_4 268 36) (s_4 268 34) (s_4 289) (zst s_4)) → (s_4 268 37 = wtm (zch (xm8 (s0 276)) (s0 268 10) (s_4 268 36)) ∧ s_4 268 9 = wp1 (xm8 (s0 276)) (s0 268 10) (s_4 268 36)) → (s0 268 9 ≤ s_4 268 36) → (241 - s_4 268 9).toNat < fu → xW D g h0 s H locs s_4 → lv_has ls 4 [(0, .ref (h0 + 268))] → W p l e { frames := 2, cells := 0, slots := 0, locals := 47 } s m args below meth c H locs 0 0 Q (F0 m 4 ls []) := by
    intro fu
    induction fu with
    | zero => intro s_4 H locs ls hF_4 q4_0 q4_1 q4_2 q4_3 q4_4 q4_5 q4_6 q4_7 q4_9 q4_10 v4_0 v4_1 v4_2 v4_3 hm; exact absurd hm (Nat.not_lt_zero _)
    | succ fu ih4 =>
      intro s_4 H locs ls hF_4 q4_0 q4_1 q4_2 q4_3 q4_4 q4_5 q4_6 q4_7 q4_9 q4_10 v4_0 v4_1 v4_2 v4_3 hm hW hl
      have hm_4 := fun (_ : Unit) => hm
      clear hm
      have r4 : 0 ≤ s_4 268 9 ∧ s_4 268 9 ≤ s_4 268 10 ∧ s_4 268 10 ≤ 240 := q4_3
      have w4 := v4_0.1.1
      have w5 := v4_0.1.2.1
      have L4 := zst_l (σ := s_4) w5
      have P4 := wp1_cs (xm8 (s0 276)) (s0 268 10) (s_4 268 36)
      have T4 := wtm_cs (zch (xm8 (s0 276)) (s0 268 10) (s_4 268 36))
      refine x_aload_n hx hb hl 0 rfl dX11_readsStep_4 rfl ?_
      refine x_goi (x_runV (As := []) hx hb hml hown hT hE hW hl.1 (Or.inl (by decide)) (so_268 h0 g _) rfl cf_X11_here wq1391 wq106 wq1389 (c_X11_here l D g T h0 s_4 hW.2.1 q4_0 q4_1 q4_2 q4_3) ⟨rfl, rfl, ⟨by decide, by decide⟩, ⟨by decide, by decide⟩⟩ rfl rfl (Nat.le_of_ble_eq_true rfl) dX11_readsStep_5) hW (fun x5 s6 H locs rx5 hp7 hW => ?_)
      obtain ⟨es6, hp7⟩ := hp7
      subst es6
      have ghp7 := hp7
      obtain ⟨c5, ec5⟩ : ∃ c : Int, c = x5 := ⟨_, rfl⟩
      have C5 : c5 = zch (xm8 (s0 276)) (s0 268 10) (s_4 268 9) := by rw [ec5, ← hF_4 276 (by first | decide | omega), ← q4_6]; exact ghp7.1
      have B5 := ghp7.2
      refine x_bipush hx hb dX11_readsStep_8 (by decide) ?_
      refine x_icmp_ne (tgt := 97) hx hb rx5 (by decide) dX11_readsStep_10 (by decide) (fun c8 => ?_) (fun c8 => ?_)
      · skip
        refine x_aload_n hx hb hl 0 rfl dX11_readsStep_97 rfl ?_
        refine x_get (j := 36) (v := .int (xJ (s_4 268 36))) hx hb hown hT hE hW cls_X11 (Or.inl (by decide)) (so_268 h0 g _) (by decide) rfl wq1221 dX11_readsStep_98 ?_
        refine x_rd hW (fun x9 ex9 rx9 => ?_)
        have q10 : s_4 268 36 = x9 := ex9.symm
        refine lv_istore_n (lv' := [(1, .int (xJ x9)), (0, .ref (h0 + 268))]) hx hb dX11_readsStep_101 rfl hl (by decide) rfl (fun ls hl => ?_)
        refine x_aload_n hx hb hl 1 rfl dX11_readsStep_102 rfl ?_
        refine x_get (j := 37) (v := .int (xJ (s_4 268 37))) hx hb hown hT hE hW cls_X11 (Or.inl (by decide)) (so_268 h0 g _) (by decide) rfl wq1222 dX11_readsStep_103 ?_
        refine x_rd hW (fun x11 ex11 rx11 => ?_)
        have q12 : s_4 268 37 = x11 := ex11.symm
        refine lv_istore_n (lv' := [(2, .int (xJ x11)), (1, .int (xJ x9)), (0, .ref (h0 + 268))]) hx hb dX11_readsStep_106 rfl hl (by decide) rfl (fun ls hl => ?_)
        refine x_aload_n hx hb hl 2 rfl dX11_readsStep_107 rfl ?_
        refine x_goi (x_runV (As := []) hx hb hml hown hT hE hW hl.1 (Or.inl (by decide)) (so_268 h0 g _) rfl cf_X11_here wq1391 wq106 wq1389 (c_X11_here l D g T h0 s_4 hW.2.1 q4_0 q4_1 q4_2 q4_3) ⟨rfl, rfl, ⟨by decide, by decide⟩, ⟨by decide, by decide⟩⟩ rfl rfl (Nat.le_of_ble_eq_true rfl) dX11_readsStep_108) hW (fun x13 s14 H locs rx13 hp15 hW => ?_)
        obtain ⟨es14, hp15⟩ := hp15
        subst es14
        have ghp15 := hp15
        obtain ⟨c108, ec108⟩ : ∃ c : Int, c = x13 := ⟨_, rfl⟩
        have C108 : c108 = zch (xm8 (s0 276)) (s0 268 10) (s_4 268 9) := by rw [ec108, ← hF_4 276 (by first | decide | omega), ← q4_6]; exact ghp15.1
        have B108 := ghp15.2
        have S108 := wst_cs c108
        refine x_goi (x_runS (As := [.int (xJ x13)]) hx hb hml hown hT hE hW hl.1 cf_X11_wayOf wq1453 wq1452 (c_X11_wayOfW l D g T h0 s_4 hW.2.1 x13 rx13) ⟨rfl, rfl, ⟨by decide, by decide⟩, ⟨by decide, by decide⟩⟩ rfl rfl (Nat.le_of_ble_eq_true rfl) dX11_readsStep_111) hW (fun x16 s17 H locs rx16 hp18 hW => ?_)
        obtain ⟨es17, hp18⟩ := hp18
        subst es17
        have ghp18 := hp18
        refine lv_istore_n (lv' := [(3, .int (xJ x16)), (2, .int (xJ x11)), (1, .int (xJ x9)), (0, .ref (h0 + 268))]) hx hb dX11_readsStep_114 rfl hl (by decide) rfl (fun ls hl => ?_)
        refine x_iload_n hx hb hl 0 rfl dX11_readsStep_115 rfl ?_
        refine x_iconst hx hb dX11_readsStep_116 ?_
        refine x_icmp_ne (tgt := 130) hx hb rx16 (by decide) dX11_readsStep_117 (by decide) (fun c19 => ?_) (fun c19 => ?_)
        · skip
          refine x_aload_n hx hb hl 3 rfl dX11_readsStep_130 rfl ?_
          refine x_aload_n hx hb hl 3 rfl dX11_readsStep_131 rfl ?_
          refine x_get (j := 9) (v := .int (xJ (s_4 268 9))) hx hb hown hT hE hW cls_X11 (Or.inl (by decide)) (so_268 h0 g _) (by decide) rfl wq1194 dX11_readsStep_132 ?_
          refine x_rd hW (fun x20 ex20 rx20 => ?_)
          have bx20 : 0 ≤ x20 ∧ x20 ≤ s_4 268 10 ∧ s_4 268 10 ≤ 240 := by rw [ex20]; exact q4_3
          refine x_iconst hx hb dX11_readsStep_135 ?_
          refine x_iadd hx hb dX11_readsStep_136 ?_
          refine x_put (j := 9) hx hb hown hT hE hW cls_X11 (by decide) (fun σ => so_268 h0 g σ) (by decide) (st_X11_9 h0 s_4 268 (x20 + 1)) (ln_X11_9 h0 _ _) wq1194 rfl rfl rfl (by omega) dX11_readsStep_137 (fun H locs s21 es21 hW => ?_)
          have q22 : IMn s21 := by rw [es21]; exact IMn_268 q4_0 (by omega)
          have q23 : IMk s21 := by rw [es21]; exact IMk_268 q4_1 (by omega)
          have q24 : IMo s21 := by rw [es21]; exact IMo_o (by unfold suIMo; first | decide | omega) q4_2
          have q25 : IR s21 := by rw [es21]; exact IR_268 q4_3 (by omega)
          have q26 : s21 268 8 = s0 268 8 := (show s21 268 8 = s_4 268 8 from by rw [es21, xU_j _ _ (by decide)]).trans q4_4
          have q27 : s21 268 58 = s0 268 58 := (show s21 268 58 = s_4 268 58 from by rw [es21, xU_j _ _ (by decide)]).trans q4_5
          have q28 : s21 268 10 = s0 268 10 := (show s21 268 10 = s_4 268 10 from by rw [es21, xU_j _ _ (by decide)]).trans q4_6
          have q29 : s21 268 34 = s0 268 34 := (show s21 268 34 = s_4 268 34 from by rw [es21, xU_j _ _ (by decide)]).trans q4_7
          have q30 : s21 268 17 = s0 268 17 := (show s21 268 17 = s_4 268 17 from by rw [es21, xU_j _ _ (by decide)]).trans q4_9
          have q31 : s21 268 48 = s0 268 48 := (show s21 268 48 = s_4 268 48 from by rw [es21, xU_j _ _ (by decide)]).trans q4_10
          have q32 : s21 268 36 = x9 := (show s21 268 36 = s_4 268 36 from by rw [es21, xU_j _ _ (by decide)]).trans q10
          have q33 : s21 268 37 = x11 := (show s21 268 37 = s_4 268 37 from by rw [es21, xU_j _ _ (by decide)]).trans q12
          have q34 : s21 268 9 = (x20 + 1) := by rw [es21, xU_s]
          have hF35 := hF_4.put es21 (by omega)
          have E137 := es21
          refine x_aload_n hx hb hl 3 rfl dX11_readsStep_140 rfl ?_
          refine x_get (j := 34) (v := .int (xJ (s21 268 34))) hx hb hown hT hE hW cls_X11 (Or.inl (by decide)) (so_268 h0 g _) (by decide) rfl wq1219 dX11_readsStep_141 ?_
          refine x_rd hW (fun x36 ex36 rx36 => ?_)
          have fx36 : x36 = s0 268 34 := ex36.trans q29
          refine x_iload_n hx hb hl 1 rfl dX11_readsStep_144 rfl ?_
          refine x_iadd hx hb dX11_readsStep_145 ?_
          refine x_bipush hx hb dX11_readsStep_146 (by decide) ?_
          refine x_icmp_le (tgt := 159) hx hb (by omega) (by decide) dX11_readsStep_148 (by decide) (fun c37 => ?_) (fun c37 => ?_)
          · skip
            refine x_aload_n hx hb hl 3 rfl dX11_readsStep_159 rfl ?_
            refine x_get (j := 30) (v := .ref (h0 + 289)) hx hb hown hT hE hW cls_X11 (Or.inl (by decide)) (so_268 h0 g _) (by decide) rfl wq1215 dX11_readsStep_160 ?_
            refine x_aload_n hx hb hl 3 rfl dX11_readsStep_163 rfl ?_
            refine x_get (j := 34) (v := .int (xJ (s21 268 34))) hx hb hown hT hE hW cls_X11 (Or.inl (by decide)) (so_268 h0 g _) (by decide) rfl wq1219 dX11_readsStep_164 ?_
            refine x_rd hW (fun x38 ex38 rx38 => ?_)
            have fx38 : x38 = s0 268 34 := ex38.trans q29
            refine x_iload_n hx hb hl 0 rfl dX11_readsStep_167 rfl ?_
            refine x_i2bm hx hb rx16 dX11_readsStep_168 (fun x39 rx39 mx39 bx39 => ?_)
            obtain ⟨y41, ey41, ry41, my41, by41⟩ := xnbm (v := x39) rx39
            refine x_bast (w := y41) hx hb hE hW (by decide) (fun σ => sa_289 h0 g σ) (by omega) (by decide) ey41 ry41 dX11_readsStep_169 (fun H locs s40 es40 hW => ?_)
            have q42 : IMn s40 := by rw [es40]; exact IMn_o (by unfold suIMn; first | decide | omega) q22
            have q43 : IMk s40 := by rw [es40]; exact IMk_o (by unfold suIMk; first | decide | omega) q23
            have q44 : IMo s40 := by rw [es40]; exact IMo_o (by unfold suIMo; first | decide | omega) q24
            have q45 : IR s40 := by rw [es40]; exact IR_o (by unfold suIR; first | decide | omega) q25
            have q46 : s40 268 8 = s0 268 8 := (show s40 268 8 = s21 268 8 from by rw [es40, xU_k _ _ _ (by first | decide | omega)]).trans q26
            have q47 : s40 268 58 = s0 268 58 := (show s40 268 58 = s21 268 58 from by rw [es40, xU_k _ _ _ (by first | decide | omega)]).trans q27
            have q48 : s40 268 10 = s0 268 10 := (show s40 268 10 = s21 268 10 from by rw [es40, xU_k _ _ _ (by first | decide | omega)]).trans q28
            have q49 : s40 268 34 = s0 268 34 := (show s40 268 34 = s21 268 34 from by rw [es40, xU_k _ _ _ (by first | decide | omega)]).trans q29
            have q50 : s40 268 17 = s0 268 17 := (show s40 268 17 = s21 268 17 from by rw [es40, xU_k _ _ _ (by first | decide | omega)]).trans q30
            have q51 : s40 268 48 = s0 268 48 := (show s40 268 48 = s21 268 48 from by rw [es40, xU_k _ _ _ (by first | decide | omega)]).trans q31
            have q52 : s40 268 36 = x9 := (show s40 268 36 = s21 268 36 from by rw [es40, xU_k _ _ _ (by first | decide | omega)]).trans q32
            have q53 : s40 268 37 = x11 := (show s40 268 37 = s21 268 37 from by rw [es40, xU_k _ _ _ (by first | decide | omega)]).trans q33
            have q54 : s40 268 9 = (x20 + 1) := (show s40 268 9 = s21 268 9 from by rw [es40, xU_k _ _ _ (by first | decide | omega)]).trans q34
            have hF55 := hF35.put es40 (by omega)
            have E169 := es40
            have A169 : s40 289 = xud (s_4 289) (s_4 268 34) (2 * wst c108) := by
              rw [es40, xU_xud, E137, xU_k _ _ _ (by first | decide | omega)]
              congr 1 <;> omega
            refine x_aload_n hx hb hl 3 rfl dX11_readsStep_170 rfl ?_
            refine x_aload_n hx hb hl 3 rfl dX11_readsStep_171 rfl ?_
            refine x_get (j := 34) (v := .int (xJ (s40 268 34))) hx hb hown hT hE hW cls_X11 (Or.inl (by decide)) (so_268 h0 g _) (by decide) rfl wq1219 dX11_readsStep_172 ?_
            refine x_rd hW (fun x56 ex56 rx56 => ?_)
            have fx56 : x56 = s0 268 34 := ex56.trans q49
            refine x_iconst hx hb dX11_readsStep_175 ?_
            refine x_iadd hx hb dX11_readsStep_176 ?_
            refine x_put (j := 34) hx hb hown hT hE hW cls_X11 (by decide) (fun σ => so_268 h0 g σ) (by decide) (st_X11_34 h0 s40 268 (x56 + 1)) (ln_X11_34 h0 _ _) wq1219 rfl rfl rfl (by omega) dX11_readsStep_177 (fun H locs s57 es57 hW => ?_)
            have q58 : IMn s57 := by rw [es57]; exact IMn_268 q42 (by omega)
            have q59 : IMk s57 := by rw [es57]; exact IMk_268 q43 (by omega)
            have q60 : IMo s57 := by rw [es57]; exact IMo_o (by unfold suIMo; first | decide | omega) q44
            have q61 : IR s57 := by rw [es57]; exact IR_268 q45 (by omega)
            have q62 : s57 268 8 = s0 268 8 := (show s57 268 8 = s40 268 8 from by rw [es57, xU_j _ _ (by decide)]).trans q46
            have q63 : s57 268 58 = s0 268 58 := (show s57 268 58 = s40 268 58 from by rw [es57, xU_j _ _ (by decide)]).trans q47
            have q64 : s57 268 10 = s0 268 10 := (show s57 268 10 = s40 268 10 from by rw [es57, xU_j _ _ (by decide)]).trans q48
            have q65 : s57 268 34 = (x56 + 1) := by rw [es57, xU_s]
            have q66 : s57 268 17 = s0 268 17 := (show s57 268 17 = s40 268 17 from by rw [es57, xU_j _ _ (by decide)]).trans q50
            have q67 : s57 268 48 = s0 268 48 := (show s57 268 48 = s40 268 48 from by rw [es57, xU_j _ _ (by decide)]).trans q51
            have q68 : s57 268 36 = x9 := (show s57 268 36 = s40 268 36 from by rw [es57, xU_j _ _ (by decide)]).trans q52
            have q69 : s57 268 37 = x11 := (show s57 268 37 = s40 268 37 from by rw [es57, xU_j _ _ (by decide)]).trans q53
            have q70 : s57 268 9 = (x20 + 1) := (show s57 268 9 = s40 268 9 from by rw [es57, xU_j _ _ (by decide)]).trans q54
            have hF71 := hF55.put es57 (by omega)
            have E177 := es57
            have Q177 : s57 290 = s_4 290 ∧ s57 291 = s_4 291 ∧ s57 292 = s_4 292 ∧ s57 268 35 = s_4 268 35 := ⟨by rw [E177, xU_k _ _ _ (by first | decide | omega), E169, xU_k _ _ _ (by first | decide | omega), E137, xU_k _ _ _ (by first | decide | omega)], by rw [E177, xU_k _ _ _ (by first | decide | omega), E169, xU_k _ _ _ (by first | decide | omega), E137, xU_k _ _ _ (by first | decide | omega)], by rw [E177, xU_k _ _ _ (by first | decide | omega), E169, xU_k _ _ _ (by first | decide | omega), E137, xU_k _ _ _ (by first | decide | omega)], by rw [E177, xU_j _ _ (by decide), E169, xU_k _ _ _ (by first | decide | omega), E137, xU_j _ _ (by decide)]⟩
            have Q178 : s57 268 34 = s_4 268 34 + 1 ∧ s57 268 9 = s_4 268 9 + 1 := ⟨by rw [E177, xU_s]; omega, by rw [E177, xU_j _ _ (by decide), E169, xU_k _ _ _ (by first | decide | omega), E137, xU_s]; omega⟩
            have Q289 : s57 289 = xud (s_4 289) (s_4 268 34) (2 * wst c108) := by rw [E177, xU_k _ _ _ (by first | decide | omega)]; exact A169
            refine x_aload_n hx hb hl 3 rfl dX11_readsStep_180 rfl ?_
            refine x_aload_n hx hb hl 3 rfl dX11_readsStep_181 rfl ?_
            refine x_get (j := 34) (v := .int (xJ (s57 268 34))) hx hb hown hT hE hW cls_X11 (Or.inl (by decide)) (so_268 h0 g _) (by decide) rfl wq1219 dX11_readsStep_182 ?_
            refine x_rd hW (fun x72 ex72 rx72 => ?_)
            have fx72 : x72 = (x56 + 1) := ex72.trans q65
            refine x_iconst hx hb dX11_readsStep_185 ?_
            refine x_isub hx hb dX11_readsStep_186 ?_
            obtain ⟨a186, ea186⟩ : ∃ a : Int, a = (x72 - 1) := ⟨_, rfl⟩
            refine x_iload_n hx hb hl 1 rfl dX11_readsStep_187 rfl ?_
            refine x_iload_n hx hb hl 2 rfl dX11_readsStep_188 rfl ?_
            refine x_goi (x_runV (As := [.int (xJ (x72 - 1)), .int (xJ x11), .int (xJ x9)]) hx hb hml hown hT hE hW hl.1 (Or.inl (by decide)) (so_268 h0 g _) rfl cf_X11_repeats wq1457 wq114 wq1455 (c_X11_repeatsJ l D g T h0 s57 hW.2.1 (x72 - 1) (by omega) x11 rx11 x9 rx9 (by omega) (by omega) (by omega) (by
                rw [Q289, Q178.1]
                intro q q1 q2
                by_cases h : q = s_4 268 34
                · subst h; rw [xud_s]; omega
                · rw [xud_o _ _ h]; exact v4_1.bb q q1 (by omega)) q58 q59 q60 q61) ⟨rfl, rfl, ⟨by decide, by decide⟩, ⟨by decide, by decide⟩⟩ rfl rfl (Nat.le_of_ble_eq_true rfl) dX11_readsStep_189) hW (fun x73 s74 H locs rx73 hp75 hW => ?_)
            obtain ⟨fs74, hp75⟩ := hp75
            have hF76 := hF71.call fs74 (fun k h => by omega)
            have ghp75 := hp75.2
            have H189 := ghp75
            rw [← ea186, show s57 268 34 - a186 = 1 from by omega, Int.mul_one, Q289] at H189
            have D189 : (x73 = 1 ∧ s_4 268 34 + s_4 268 37 ≤ 60 ∧ s74 268 34 = s_4 268 34 + s_4 268 37) ∨ x73 = 0 := H189.elim (fun q => Or.inl (by omega)) (fun q => Or.inr q.1)
            have N189 : x73 ≠ 0 → s74 289 = wrep (xud (s_4 289) (s_4 268 34) (2 * wst c108)) (s_4 268 34) (s_4 268 34 + 1) (s_4 268 37 - 1) := fun hv => by
              have y := (H189.resolve_right (fun q => hv q.1)).2.2.2
              rw [show a186 = s_4 268 34 from by omega, Q178.1] at y
              exact y.trans (wrep_c (by omega))
            have A189z : x73 ≠ 0 → (zRW s74 ∧ zR0 s74) ∧ zWY (xm8 (s0 276)) (s0 268 10) Z false (s74 268 9) (s74 268 34) (s74 289) (zst s74) := fun hv => by
              have d := D189.resolve_right hv
              have k5 : s74 268 35 = s_4 268 35 := by omega
              have k9 : s74 268 9 = s_4 268 9 + 1 := by omega
              refine ⟨⟨v4_0.1.f ⟨by omega, by omega⟩ ⟨by omega, by omega⟩ ((fs74 291 (by first | decide | omega)).trans Q177.2.1) ((fs74 292 (by first | decide | omega)).trans Q177.2.2.1), v4_0.2.f (by omega) ((fs74 290 (by first | decide | omega)).trans Q177.1)⟩, ?_⟩
              rw [zst_f k5 ((fs74 290 (by first | decide | omega)).trans Q177.1) ((fs74 291 (by first | decide | omega)).trans Q177.2.1) ((fs74 292 (by first | decide | omega)).trans Q177.2.2.1)]
              exact v4_1.step (by omega) v4_2.2 v4_2.1 (by omega) (by rw [← C108]; omega) (by omega) k9 d.2.2 (by rw [← C108]; exact N189 hv)
            refine x_if_ne (tgt := 197) hx hb rx73 dX11_readsStep_192 (by decide) (fun c77 => ?_) (fun c77 => ?_)
            · skip
              have L197 : ∀ (fu : Nat) (s_197 : xS) (H : Heap) (locs : List Loc) (ls : Array Slot), (xFr (fun k => k = 268 ∨ k = 289 ∨ k = 290 ∨ k = 291 ∨ k = 292) s0 s_197) → (IMn s_197) → (IMk s_197) → (IMo s_197) → (IR s_197) → (s_197 268 8 = s0 268 8) → (s_197 268 58 = s0 268 58) → (s_197 268 10 = s0 268 10) → (s_197 268 36 = x9) → (s_197 268 37 = x11) → (s_197 268 17 = s0 268 17) → (s_197 268 48 = s0 268 48) → (zRW s_197 ∧ zR0 s_197) → (zWY (xm8 (s0 276)) (s0 268 10) Z false (s_197 268 9) (s_197 268 34) (s_197 289) (zst s_197)) → (s0 268 9 + 1 ≤ s_197 268 9) → (241 - s_197 268 9).toNat < fu → xW D g h0 s H locs s_197 → lv_has ls 4 [(0, .ref (h0 + 268))] → W p l e { frames := 2, cells := 0, slots := 0, locals := 47 } s m args below meth c H locs 0 0 Q (F0 m 197 ls []) := by
                intro fu
                induction fu with
                | zero => intro s_197 H locs ls hF_197 q197_0 q197_1 q197_2 q197_3 q197_4 q197_5 q197_6 q197_9 q197_10 q197_11 q197_12 v197_0 v197_1 v197_2 hm; exact absurd hm (Nat.not_lt_zero _)
                | succ fu ih197 =>
                  intro s_197 H locs ls hF_197 q197_0 q197_1 q197_2 q197_3 q197_4 q197_5 q197_6 q197_9 q197_10 q197_11 q197_12 v197_0 v197_1 v197_2 hm hW hl
                  have hm_197 := fun (_ : Unit) => hm
                  clear hm
                  have r197 : 0 ≤ s_197 268 9 ∧ s_197 268 9 ≤ s_197 268 10 ∧ s_197 268 10 ≤ 240 := q197_3
                  have w197 := v197_0.1.1
                  have w195 := v197_0.1.2.1
                  have L197 := zst_l (σ := s_197) w195
                  refine x_aload_n hx hb hl 0 rfl dX11_readsStep_197 rfl ?_
                  refine x_goi (x_runV (As := []) hx hb hml hown hT hE hW hl.1 (Or.inl (by decide)) (so_268 h0 g _) rfl cf_X11_here wq1391 wq106 wq1389 (c_X11_here l D g T h0 s_197 hW.2.1 q197_0 q197_1 q197_2 q197_3) ⟨rfl, rfl, ⟨by decide, by decide⟩, ⟨by decide, by decide⟩⟩ rfl rfl (Nat.le_of_ble_eq_true rfl) dX11_readsStep_198) hW (fun x78 s79 H locs rx78 hp80 hW => ?_)
                  obtain ⟨es79, hp80⟩ := hp80
                  subst es79
                  have ghp80 := hp80
                  obtain ⟨c198, ec198⟩ : ∃ c : Int, c = x78 := ⟨_, rfl⟩
                  have C198 : c198 = zch (xm8 (s0 276)) (s0 268 10) (s_197 268 9) := by rw [ec198, ← hF_197 276 (by first | decide | omega), ← q197_6]; exact ghp80.1
                  have B198 := ghp80.2
                  refine x_bipush hx hb dX11_readsStep_201 (by decide) ?_
                  refine x_icmp_ne (tgt := 269) hx hb rx78 (by decide) dX11_readsStep_203 (by decide) (fun c81 => ?_) (fun c81 => ?_)
                  · skip
                    refine x_iconst hx hb dX11_readsStep_269 ?_
                    rw [eQ]
                    exact x_zret hx hb hr hlk hW (by omega) ⟨hF_197, ⟨q197_0, q197_1, q197_2, q197_3, q197_4, q197_5, q197_6, q197_11, q197_12, trivial⟩, Or.inr ⟨by omega, v197_0.1, v197_0.2, by omega, v197_1, by omega⟩⟩ dX11_readsStep_270
                  refine x_aload_n hx hb hl 0 rfl dX11_readsStep_206 rfl ?_
                  refine x_get (j := 35) (v := .int (xJ (s_197 268 35))) hx hb hown hT hE hW cls_X11 (Or.inl (by decide)) (so_268 h0 g _) (by decide) rfl wq1220 dX11_readsStep_207 ?_
                  refine x_rd hW (fun x82 ex82 rx82 => ?_)
                  have q83 : s_197 268 35 = x82 := ex82.symm
                  refine x_if_le (tgt := 269) hx hb rx82 dX11_readsStep_210 (by decide) (fun c84 => ?_) (fun c84 => ?_)
                  · skip
                    refine x_iconst hx hb dX11_readsStep_269 ?_
                    rw [eQ]
                    exact x_zret hx hb hr hlk hW (by omega) ⟨hF_197, ⟨q197_0, q197_1, q197_2, q197_3, q197_4, q197_5, q197_6, q197_11, q197_12, trivial⟩, Or.inr ⟨by omega, v197_0.1, v197_0.2, by omega, v197_1, by omega⟩⟩ dX11_readsStep_270
                  refine x_aload_n hx hb hl 0 rfl dX11_readsStep_213 rfl ?_
                  refine x_aload_n hx hb hl 0 rfl dX11_readsStep_214 rfl ?_
                  refine x_get (j := 9) (v := .int (xJ (s_197 268 9))) hx hb hown hT hE hW cls_X11 (Or.inl (by decide)) (so_268 h0 g _) (by decide) rfl wq1194 dX11_readsStep_215 ?_
                  refine x_rd hW (fun x85 ex85 rx85 => ?_)
                  have bx85 : 0 ≤ x85 ∧ x85 ≤ s_197 268 10 ∧ s_197 268 10 ≤ 240 := by rw [ex85]; exact q197_3
                  refine x_iconst hx hb dX11_readsStep_218 ?_
                  refine x_iadd hx hb dX11_readsStep_219 ?_
                  refine x_put (j := 9) hx hb hown hT hE hW cls_X11 (by decide) (fun σ => so_268 h0 g σ) (by decide) (st_X11_9 h0 s_197 268 (x85 + 1)) (ln_X11_9 h0 _ _) wq1194 rfl rfl rfl (by omega) dX11_readsStep_220 (fun H locs s86 es86 hW => ?_)
                  have q87 : IMn s86 := by rw [es86]; exact IMn_268 q197_0 (by omega)
                  have q88 : IMk s86 := by rw [es86]; exact IMk_268 q197_1 (by omega)
                  have q89 : IMo s86 := by rw [es86]; exact IMo_o (by unfold suIMo; first | decide | omega) q197_2
                  have q90 : IR s86 := by rw [es86]; exact IR_268 q197_3 (by omega)
                  have q91 : s86 268 8 = s0 268 8 := (show s86 268 8 = s_197 268 8 from by rw [es86, xU_j _ _ (by decide)]).trans q197_4
                  have q92 : s86 268 58 = s0 268 58 := (show s86 268 58 = s_197 268 58 from by rw [es86, xU_j _ _ (by decide)]).trans q197_5
                  have q93 : s86 268 10 = s0 268 10 := (show s86 268 10 = s_197 268 10 from by rw [es86, xU_j _ _ (by decide)]).trans q197_6
                  have q94 : s86 268 36 = x9 := (show s86 268 36 = s_197 268 36 from by rw [es86, xU_j _ _ (by decide)]).trans q197_9
                  have q95 : s86 268 37 = x11 := (show s86 268 37 = s_197 268 37 from by rw [es86, xU_j _ _ (by decide)]).trans q197_10
                  have q96 : s86 268 17 = s0 268 17 := (show s86 268 17 = s_197 268 17 from by rw [es86, xU_j _ _ (by decide)]).trans q197_11
                  have q97 : s86 268 48 = s0 268 48 := (show s86 268 48 = s_197 268 48 from by rw [es86, xU_j _ _ (by decide)]).trans q197_12
                  have q98 : s86 268 35 = x82 := (show s86 268 35 = s_197 268 35 from by rw [es86, xU_j _ _ (by decide)]).trans q83
                  have q99 : s86 268 9 = (x85 + 1) := by rw [es86, xU_s]
                  have hF100 := hF_197.put es86 (by omega)
                  have E220 := es86
                  refine x_aload_n hx hb hl 0 rfl dX11_readsStep_223 rfl ?_
                  refine x_aload_n hx hb hl 0 rfl dX11_readsStep_224 rfl ?_
                  refine x_get (j := 35) (v := .int (xJ (s86 268 35))) hx hb hown hT hE hW cls_X11 (Or.inl (by decide)) (so_268 h0 g _) (by decide) rfl wq1220 dX11_readsStep_225 ?_
                  refine x_rd hW (fun x101 ex101 rx101 => ?_)
                  have fx101 : x101 = x82 := ex101.trans q98
                  refine x_iconst hx hb dX11_readsStep_228 ?_
                  refine x_isub hx hb dX11_readsStep_229 ?_
                  refine x_put (j := 35) hx hb hown hT hE hW cls_X11 (by decide) (fun σ => so_268 h0 g σ) (by decide) (st_X11_35 h0 s86 268 (x101 - 1)) (ln_X11_35 h0 _ _) wq1220 rfl rfl rfl (by omega) dX11_readsStep_230 (fun H locs s102 es102 hW => ?_)
                  have q103 : IMn s102 := by rw [es102]; exact IMn_268 q87 (by omega)
                  have q104 : IMk s102 := by rw [es102]; exact IMk_268 q88 (by omega)
                  have q105 : IMo s102 := by rw [es102]; exact IMo_o (by unfold suIMo; first | decide | omega) q89
                  have q106 : IR s102 := by rw [es102]; exact IR_268 q90 (by omega)
                  have q107 : s102 268 8 = s0 268 8 := (show s102 268 8 = s86 268 8 from by rw [es102, xU_j _ _ (by decide)]).trans q91
                  have q108 : s102 268 58 = s0 268 58 := (show s102 268 58 = s86 268 58 from by rw [es102, xU_j _ _ (by decide)]).trans q92
                  have q109 : s102 268 10 = s0 268 10 := (show s102 268 10 = s86 268 10 from by rw [es102, xU_j _ _ (by decide)]).trans q93
                  have q110 : s102 268 36 = x9 := (show s102 268 36 = s86 268 36 from by rw [es102, xU_j _ _ (by decide)]).trans q94
                  have q111 : s102 268 37 = x11 := (show s102 268 37 = s86 268 37 from by rw [es102, xU_j _ _ (by decide)]).trans q95
                  have q112 : s102 268 17 = s0 268 17 := (show s102 268 17 = s86 268 17 from by rw [es102, xU_j _ _ (by decide)]).trans q96
                  have q113 : s102 268 48 = s0 268 48 := (show s102 268 48 = s86 268 48 from by rw [es102, xU_j _ _ (by decide)]).trans q97
                  have q114 : s102 268 35 = (x101 - 1) := by rw [es102, xU_s]
                  have q115 : s102 268 9 = (x85 + 1) := (show s102 268 9 = s86 268 9 from by rw [es102, xU_j _ _ (by decide)]).trans q99
                  have hF116 := hF100.put es102 (by omega)
                  have E230 := es102
                  have Q230 : s102 290 = s_197 290 ∧ s102 291 = s_197 291 ∧ s102 292 = s_197 292 := ⟨by rw [E230, xU_k _ _ _ (by first | decide | omega), E220, xU_k _ _ _ (by first | decide | omega)], by rw [E230, xU_k _ _ _ (by first | decide | omega), E220, xU_k _ _ _ (by first | decide | omega)], by rw [E230, xU_k _ _ _ (by first | decide | omega), E220, xU_k _ _ _ (by first | decide | omega)]⟩
                  have Q231 : s102 268 35 = s_197 268 35 - 1 ∧ s102 268 34 = s_197 268 34 ∧ s102 268 9 = s_197 268 9 + 1 := ⟨by rw [E230, xU_s]; omega, by rw [E230, xU_j _ _ (by decide), E220, xU_j _ _ (by decide)], by rw [E230, xU_j _ _ (by decide), E220, xU_s]; omega⟩
                  have O230 := zst_pop (σ := s_197) (τ := s102) (by omega) Q231.1 Q230.1 Q230.2.1 Q230.2.2
                  have W230 := v197_0.1.2.2 (s102 268 35) (by omega) (by omega)
                  have X230 := v197_0.2 (s102 268 35) (by omega) (by omega)
                  have P230 := v197_1
                  rw [O230] at P230
                  have Q289b : s102 289 = s_197 289 := by rw [E230, xU_k _ _ _ (by first | decide | omega), E220, xU_k _ _ _ (by first | decide | omega)]
                  refine x_aload_n hx hb hl 0 rfl dX11_readsStep_233 rfl ?_
                  refine x_aload_n hx hb hl 0 rfl dX11_readsStep_234 rfl ?_
                  refine x_get (j := 32) (v := .ref (h0 + 291)) hx hb hown hT hE hW cls_X11 (Or.inl (by decide)) (so_268 h0 g _) (by decide) rfl wq1217 dX11_readsStep_235 ?_
                  refine x_aload_n hx hb hl 0 rfl dX11_readsStep_238 rfl ?_
                  refine x_get (j := 35) (v := .int (xJ (s102 268 35))) hx hb hown hT hE hW cls_X11 (Or.inl (by decide)) (so_268 h0 g _) (by decide) rfl wq1220 dX11_readsStep_239 ?_
                  refine x_rd hW (fun x117 ex117 rx117 => ?_)
                  have fx117 : x117 = (x101 - 1) := ex117.trans q114
                  refine x_iald hx hb hE hW (Or.inl (by decide)) (sa_291 h0 g _) (by omega) (by decide) dX11_readsStep_242 ?_
                  refine x_rd hW (fun x118 ex118 rx118 => ?_)
                  have V242 : x118 = s_197 291 (s102 268 35) := by rw [ex118, Q230.2.1, show x117 = s102 268 35 from by omega]
                  refine x_aload_n hx hb hl 0 rfl dX11_readsStep_243 rfl ?_
                  refine x_get (j := 33) (v := .ref (h0 + 292)) hx hb hown hT hE hW cls_X11 (Or.inl (by decide)) (so_268 h0 g _) (by decide) rfl wq1218 dX11_readsStep_244 ?_
                  refine x_aload_n hx hb hl 0 rfl dX11_readsStep_247 rfl ?_
                  refine x_get (j := 35) (v := .int (xJ (s102 268 35))) hx hb hown hT hE hW cls_X11 (Or.inl (by decide)) (so_268 h0 g _) (by decide) rfl wq1220 dX11_readsStep_248 ?_
                  refine x_rd hW (fun x119 ex119 rx119 => ?_)
                  have fx119 : x119 = (x101 - 1) := ex119.trans q114
                  refine x_iald hx hb hE hW (Or.inl (by decide)) (sa_292 h0 g _) (by omega) (by decide) dX11_readsStep_251 ?_
                  refine x_rd hW (fun x120 ex120 rx120 => ?_)
                  have V251 : x120 = s_197 292 (s102 268 35) := by rw [ex120, Q230.2.2, show x119 = s102 268 35 from by omega]
                  refine x_aload_n hx hb hl 0 rfl dX11_readsStep_252 rfl ?_
                  refine x_get (j := 31) (v := .ref (h0 + 290)) hx hb hown hT hE hW cls_X11 (Or.inl (by decide)) (so_268 h0 g _) (by decide) rfl wq1216 dX11_readsStep_253 ?_
                  refine x_aload_n hx hb hl 0 rfl dX11_readsStep_256 rfl ?_
                  refine x_get (j := 35) (v := .int (xJ (s102 268 35))) hx hb hown hT hE hW cls_X11 (Or.inl (by decide)) (so_268 h0 g _) (by decide) rfl wq1220 dX11_readsStep_257 ?_
                  refine x_rd hW (fun x121 ex121 rx121 => ?_)
                  have fx121 : x121 = (x101 - 1) := ex121.trans q114
                  refine x_iald hx hb hE hW (Or.inl (by decide)) (sa_290 h0 g _) (by omega) (by decide) dX11_readsStep_260 ?_
                  refine x_rd hW (fun x122 ex122 rx122 => ?_)
                  have V260 : x122 = s_197 290 (s102 268 35) := by rw [ex122, Q230.1, show x121 = s102 268 35 from by omega]
                  refine x_goi (x_runV (As := [.int (xJ x118), .int (xJ x120), .int (xJ x122)]) hx hb hml hown hT hE hW hl.1 (Or.inl (by decide)) (so_268 h0 g _) rfl cf_X11_repeats wq1457 wq114 wq1455 (c_X11_repeatsJ l D g T h0 s102 hW.2.1 x118 rx118 x120 rx120 x122 rx122 (by omega) (by omega) (by omega) (by rw [Q231.2.1, Q289b]; exact P230.bb) q103 q104 q105 q106) ⟨rfl, rfl, ⟨by decide, by decide⟩, ⟨by decide, by decide⟩⟩ rfl rfl (Nat.le_of_ble_eq_true rfl) dX11_readsStep_261) hW (fun x123 s124 H locs rx123 hp125 hW => ?_)
                  obtain ⟨fs124, hp125⟩ := hp125
                  have hF126 := hF116.call fs124 (fun k h => by omega)
                  have ghp125 := hp125.2
                  have H261 := ghp125
                  rw [V242, V251, V260, Q231.2.1, Q289b] at H261
                  have A261z : x123 ≠ 0 → (zRW s124 ∧ zR0 s124) ∧ zWY (xm8 (s0 276)) (s0 268 10) Z false (s124 268 9) (s124 268 34) (s124 289) (zst s124) := fun hv => by
                    have d := H261.resolve_right (fun q => hv q.1)
                    have k5 : s124 268 35 = s102 268 35 := by omega
                    have k9 : s124 268 9 = s_197 268 9 + 1 := by omega
                    have m9 : 0 ≤ (s_197 292 (s102 268 35) - 1) * (s_197 268 34 - s_197 291 (s102 268 35)) := Int.mul_nonneg (by omega) (by omega)
                    refine ⟨⟨v197_0.1.f ⟨by omega, by omega⟩ ⟨by omega, by omega⟩ ((fs124 291 (by first | decide | omega)).trans Q230.2.1) ((fs124 292 (by first | decide | omega)).trans Q230.2.2), v197_0.2.f (by omega) ((fs124 290 (by first | decide | omega)).trans Q230.1)⟩, ?_⟩
                    rw [zst_f k5 (fs124 290 (by first | decide | omega)) (fs124 291 (by first | decide | omega)) (fs124 292 (by first | decide | omega))]
                    exact P230.pop (by omega) (by omega) (by omega) k9 d.2.2.1 d.2.2.2
                  refine x_if_ne (tgt := 197) hx hb rx123 dX11_readsStep_264 (by decide) (fun c127 => ?_) (fun c127 => ?_)
                  · skip
                    exact ih197 s124 H locs ls hF126 hp125.1.1 hp125.1.2.1 hp125.1.2.2.1 hp125.1.2.2.2.1 (hp125.1.2.2.2.2.1.trans q107) (hp125.1.2.2.2.2.2.1.trans q108) (hp125.1.2.2.2.2.2.2.1.trans q109) (hp125.1.2.2.2.2.2.2.2.2.2.1.trans q110) (hp125.1.2.2.2.2.2.2.2.2.2.2.1.trans q111) (hp125.1.2.2.2.2.2.2.2.2.2.2.2.1.trans q112) (hp125.1.2.2.2.2.2.2.2.2.2.2.2.2.1.trans q113) ((A261z (by omega)).1) ((A261z (by omega)).2) (by omega) (by have hm := hm_197 (); omega) hW (lv_sub hl [0] rfl)
                  refine x_iconst hx hb dX11_readsStep_267 ?_
                  rw [eQ]
                  exact x_zret hx hb hr hlk hW (by omega) ⟨hF126, ⟨hp125.1.1, hp125.1.2.1, hp125.1.2.2.1, hp125.1.2.2.2.1, (hp125.1.2.2.2.2.1.trans q107), (hp125.1.2.2.2.2.2.1.trans q108), (hp125.1.2.2.2.2.2.2.1.trans q109), (hp125.1.2.2.2.2.2.2.2.2.2.2.2.1.trans q112), (hp125.1.2.2.2.2.2.2.2.2.2.2.2.2.1.trans q113), trivial⟩, by
                      have d := H261.resolve_left (fun q => by omega)
                      have z := P230.x.pop6 (by omega) (by omega) d.2.1
                      exact Or.inl ⟨by omega, by omega, by omega, by omega⟩⟩ dX11_readsStep_268
              exact L197 ((241 - s74 268 9 : Int).toNat + 1) s74 H locs ls hF76 hp75.1.1 hp75.1.2.1 hp75.1.2.2.1 hp75.1.2.2.2.1 (hp75.1.2.2.2.2.1.trans q62) (hp75.1.2.2.2.2.2.1.trans q63) (hp75.1.2.2.2.2.2.2.1.trans q64) (hp75.1.2.2.2.2.2.2.2.2.2.1.trans q68) (hp75.1.2.2.2.2.2.2.2.2.2.2.1.trans q69) (hp75.1.2.2.2.2.2.2.2.2.2.2.2.1.trans q66) (hp75.1.2.2.2.2.2.2.2.2.2.2.2.2.1.trans q67) ((A189z (by omega)).1) ((A189z (by omega)).2) (by omega) (Nat.lt_succ_self _) hW (lv_sub hl [3] rfl)
            refine x_iconst hx hb dX11_readsStep_195 ?_
            rw [eQ]
            exact x_zret hx hb hr hlk hW (by omega) ⟨hF76, ⟨hp75.1.1, hp75.1.2.1, hp75.1.2.2.1, hp75.1.2.2.2.1, (hp75.1.2.2.2.2.1.trans q62), (hp75.1.2.2.2.2.2.1.trans q63), (hp75.1.2.2.2.2.2.2.1.trans q64), (hp75.1.2.2.2.2.2.2.2.2.2.2.2.1.trans q66), (hp75.1.2.2.2.2.2.2.2.2.2.2.2.2.1.trans q67), trivial⟩, by
                have d := H189.resolve_left (fun q => by omega)
                have z := v4_1.x.six (p1 := s_4 268 9) (by omega) v4_2.2 v4_2.1 (by omega) (by rw [← C108]; omega) (by omega)
                exact Or.inl ⟨by omega, by omega, by omega, by omega⟩⟩ dX11_readsStep_196
          refine x_aload_n hx hb hl 3 rfl dX11_readsStep_151 rfl ?_
          refine x_bipush hx hb dX11_readsStep_152 (by decide) ?_
          refine x_iload_n hx hb hl 2 rfl dX11_readsStep_154 rfl ?_
          refine x_goi (x_runV (As := [.int (xJ 6), .int (xJ x9)]) hx hb hml hown hT hE hW hl.1 (Or.inl (by decide)) (so_268 h0 g _) rfl cf_X11_wrongAt wq1401 wq107 wq1399 (c_X11_wrongAtW l D g T h0 s21 hW.2.1 6 (by decide) x9 rx9 (by omega) q22 q23 q24 q25) ⟨rfl, rfl, ⟨by decide, by decide⟩, ⟨by decide, by decide⟩⟩ rfl rfl (Nat.le_of_ble_eq_true rfl) dX11_readsStep_155) hW (fun x128 s129 H locs rx128 hp130 hW => ?_)
          obtain ⟨fs129, hp130⟩ := hp130
          have hF131 := hF35.call fs129 (fun k h => by omega)
          have ghp130 := hp130.2
          rw [eQ]
          exact x_zret hx hb hr hlk hW (by omega) ⟨hF131, ⟨hp130.1.1, hp130.1.2.1, hp130.1.2.2.1, hp130.1.2.2.2.1, (hp130.1.2.2.2.2.1.trans q26), (hp130.1.2.2.2.2.2.1.trans q27), (hp130.1.2.2.2.2.2.2.1.trans q28), (hp130.1.2.2.2.2.2.2.2.2.2.2.2.2.1.trans q30), (hp130.1.2.2.2.2.2.2.2.2.2.2.2.2.2.1.trans q31), trivial⟩, by
              have z := v4_1.x.six (p1 := s_4 268 9) (by omega) v4_2.2 v4_2.1 (by omega) (by rw [← C108]; omega) (by omega)
              exact Or.inl ⟨by omega, by omega, by omega, by omega⟩⟩ dX11_readsStep_158
        refine x_aload_n hx hb hl 3 rfl dX11_readsStep_120 rfl ?_
        refine x_iconst hx hb dX11_readsStep_121 ?_
        refine x_aload_n hx hb hl 3 rfl dX11_readsStep_122 rfl ?_
        refine x_get (j := 9) (v := .int (xJ (s_4 268 9))) hx hb hown hT hE hW cls_X11 (Or.inl (by decide)) (so_268 h0 g _) (by decide) rfl wq1194 dX11_readsStep_123 ?_
        refine x_rd hW (fun x132 ex132 rx132 => ?_)
        have bx132 : 0 ≤ x132 ∧ x132 ≤ s_4 268 10 ∧ s_4 268 10 ≤ 240 := by rw [ex132]; exact q4_3
        refine x_goi (x_runV (As := [.int (xJ 1), .int (xJ x132)]) hx hb hml hown hT hE hW hl.1 (Or.inl (by decide)) (so_268 h0 g _) rfl cf_X11_wrongAt wq1401 wq107 wq1399 (c_X11_wrongAtW l D g T h0 s_4 hW.2.1 1 (by decide) x132 rx132 (by omega) q4_0 q4_1 q4_2 q4_3) ⟨rfl, rfl, ⟨by decide, by decide⟩, ⟨by decide, by decide⟩⟩ rfl rfl (Nat.le_of_ble_eq_true rfl) dX11_readsStep_126) hW (fun x133 s134 H locs rx133 hp135 hW => ?_)
        obtain ⟨fs134, hp135⟩ := hp135
        have hF136 := hF_4.call fs134 (fun k h => by omega)
        have ghp135 := hp135.2
        rw [eQ]
        exact x_zret hx hb hr hlk hW (by omega) ⟨hF136, ⟨hp135.1.1, hp135.1.2.1, hp135.1.2.2.1, hp135.1.2.2.2.1, (hp135.1.2.2.2.2.1.trans q4_4), (hp135.1.2.2.2.2.2.1.trans q4_5), (hp135.1.2.2.2.2.2.2.1.trans q4_6), (hp135.1.2.2.2.2.2.2.2.2.2.2.2.2.1.trans q4_9), (hp135.1.2.2.2.2.2.2.2.2.2.2.2.2.2.1.trans q4_10), trivial⟩, by
            have z := v4_1.x.one (p1 := s_4 268 9) (by omega) v4_2.2 (by omega) (by rw [← C108]; omega)
            exact Or.inl ⟨by omega, by omega, by omega, by omega⟩⟩ dX11_readsStep_129
      refine x_aload_n hx hb hl 0 rfl dX11_readsStep_13 rfl ?_
      refine x_get (j := 35) (v := .int (xJ (s_4 268 35))) hx hb hown hT hE hW cls_X11 (Or.inl (by decide)) (so_268 h0 g _) (by decide) rfl wq1220 dX11_readsStep_14 ?_
      refine x_rd hW (fun x137 ex137 rx137 => ?_)
      have q138 : s_4 268 35 = x137 := ex137.symm
      refine x_iconst hx hb dX11_readsStep_17 ?_
      refine x_icmp_ne (tgt := 31) hx hb rx137 (by decide) dX11_readsStep_18 (by decide) (fun c139 => ?_) (fun c139 => ?_)
      · skip
        refine x_aload_n hx hb hl 0 rfl dX11_readsStep_31 rfl ?_
        refine x_get (j := 31) (v := .ref (h0 + 290)) hx hb hown hT hE hW cls_X11 (Or.inl (by decide)) (so_268 h0 g _) (by decide) rfl wq1216 dX11_readsStep_32 ?_
        refine x_aload_n hx hb hl 0 rfl dX11_readsStep_35 rfl ?_
        refine x_get (j := 35) (v := .int (xJ (s_4 268 35))) hx hb hown hT hE hW cls_X11 (Or.inl (by decide)) (so_268 h0 g _) (by decide) rfl wq1220 dX11_readsStep_36 ?_
        refine x_rd hW (fun x140 ex140 rx140 => ?_)
        have fx140 : x140 = x137 := ex140.trans q138
        refine x_aload_n hx hb hl 0 rfl dX11_readsStep_39 rfl ?_
        refine x_get (j := 36) (v := .int (xJ (s_4 268 36))) hx hb hown hT hE hW cls_X11 (Or.inl (by decide)) (so_268 h0 g _) (by decide) rfl wq1221 dX11_readsStep_40 ?_
        refine x_rd hW (fun x141 ex141 rx141 => ?_)
        have q142 : s_4 268 36 = x141 := ex141.symm
        refine x_iast hx hb hE hW (by decide) (fun σ => sa_290 h0 g σ) (by omega) (by decide) rx141 dX11_readsStep_43 (fun H locs s143 es143 hW => ?_)
        have q144 : IMn s143 := by rw [es143]; exact IMn_o (by unfold suIMn; first | decide | omega) q4_0
        have q145 : IMk s143 := by rw [es143]; exact IMk_o (by unfold suIMk; first | decide | omega) q4_1
        have q146 : IMo s143 := by rw [es143]; exact IMo_o (by unfold suIMo; first | decide | omega) q4_2
        have q147 : IR s143 := by rw [es143]; exact IR_o (by unfold suIR; first | decide | omega) q4_3
        have q148 : s143 268 8 = s0 268 8 := (show s143 268 8 = s_4 268 8 from by rw [es143, xU_k _ _ _ (by first | decide | omega)]).trans q4_4
        have q149 : s143 268 58 = s0 268 58 := (show s143 268 58 = s_4 268 58 from by rw [es143, xU_k _ _ _ (by first | decide | omega)]).trans q4_5
        have q150 : s143 268 10 = s0 268 10 := (show s143 268 10 = s_4 268 10 from by rw [es143, xU_k _ _ _ (by first | decide | omega)]).trans q4_6
        have q151 : s143 268 34 = s0 268 34 := (show s143 268 34 = s_4 268 34 from by rw [es143, xU_k _ _ _ (by first | decide | omega)]).trans q4_7
        have q152 : s143 268 17 = s0 268 17 := (show s143 268 17 = s_4 268 17 from by rw [es143, xU_k _ _ _ (by first | decide | omega)]).trans q4_9
        have q153 : s143 268 48 = s0 268 48 := (show s143 268 48 = s_4 268 48 from by rw [es143, xU_k _ _ _ (by first | decide | omega)]).trans q4_10
        have q154 : s143 268 35 = x137 := (show s143 268 35 = s_4 268 35 from by rw [es143, xU_k _ _ _ (by first | decide | omega)]).trans q138
        have q155 : s143 268 36 = x141 := (show s143 268 36 = s_4 268 36 from by rw [es143, xU_k _ _ _ (by first | decide | omega)]).trans q142
        have hF156 := hF_4.put es143 (by omega)
        have E43 := es143
        have V43 : x140 = s_4 268 35 ∧ x141 = s_4 268 36 := ⟨by omega, by omega⟩
        refine x_aload_n hx hb hl 0 rfl dX11_readsStep_44 rfl ?_
        refine x_get (j := 32) (v := .ref (h0 + 291)) hx hb hown hT hE hW cls_X11 (Or.inl (by decide)) (so_268 h0 g _) (by decide) rfl wq1217 dX11_readsStep_45 ?_
        refine x_aload_n hx hb hl 0 rfl dX11_readsStep_48 rfl ?_
        refine x_get (j := 35) (v := .int (xJ (s143 268 35))) hx hb hown hT hE hW cls_X11 (Or.inl (by decide)) (so_268 h0 g _) (by decide) rfl wq1220 dX11_readsStep_49 ?_
        refine x_rd hW (fun x157 ex157 rx157 => ?_)
        have fx157 : x157 = x137 := ex157.trans q154
        refine x_aload_n hx hb hl 0 rfl dX11_readsStep_52 rfl ?_
        refine x_get (j := 34) (v := .int (xJ (s143 268 34))) hx hb hown hT hE hW cls_X11 (Or.inl (by decide)) (so_268 h0 g _) (by decide) rfl wq1219 dX11_readsStep_53 ?_
        refine x_rd hW (fun x158 ex158 rx158 => ?_)
        have fx158 : x158 = s0 268 34 := ex158.trans q151
        refine x_iast hx hb hE hW (by decide) (fun σ => sa_291 h0 g σ) (by omega) (by decide) rx158 dX11_readsStep_56 (fun H locs s159 es159 hW => ?_)
        have q160 : IMn s159 := by rw [es159]; exact IMn_o (by unfold suIMn; first | decide | omega) q144
        have q161 : IMk s159 := by rw [es159]; exact IMk_o (by unfold suIMk; first | decide | omega) q145
        have q162 : IMo s159 := by rw [es159]; exact IMo_o (by unfold suIMo; first | decide | omega) q146
        have q163 : IR s159 := by rw [es159]; exact IR_o (by unfold suIR; first | decide | omega) q147
        have q164 : s159 268 8 = s0 268 8 := (show s159 268 8 = s143 268 8 from by rw [es159, xU_k _ _ _ (by first | decide | omega)]).trans q148
        have q165 : s159 268 58 = s0 268 58 := (show s159 268 58 = s143 268 58 from by rw [es159, xU_k _ _ _ (by first | decide | omega)]).trans q149
        have q166 : s159 268 10 = s0 268 10 := (show s159 268 10 = s143 268 10 from by rw [es159, xU_k _ _ _ (by first | decide | omega)]).trans q150
        have q167 : s159 268 34 = s0 268 34 := (show s159 268 34 = s143 268 34 from by rw [es159, xU_k _ _ _ (by first | decide | omega)]).trans q151
        have q168 : s159 268 17 = s0 268 17 := (show s159 268 17 = s143 268 17 from by rw [es159, xU_k _ _ _ (by first | decide | omega)]).trans q152
        have q169 : s159 268 48 = s0 268 48 := (show s159 268 48 = s143 268 48 from by rw [es159, xU_k _ _ _ (by first | decide | omega)]).trans q153
        have q170 : s159 268 35 = x137 := (show s159 268 35 = s143 268 35 from by rw [es159, xU_k _ _ _ (by first | decide | omega)]).trans q154
        have q171 : s159 268 36 = x141 := (show s159 268 36 = s143 268 36 from by rw [es159, xU_k _ _ _ (by first | decide | omega)]).trans q155
        have hF172 := hF156.put es159 (by omega)
        have E56 := es159
        have V56 : x157 = s_4 268 35 ∧ x158 = s_4 268 34 := ⟨by omega, by rw [ex158, E43, xU_k _ _ _ (by first | decide | omega)]⟩
        refine x_aload_n hx hb hl 0 rfl dX11_readsStep_57 rfl ?_
        refine x_get (j := 33) (v := .ref (h0 + 292)) hx hb hown hT hE hW cls_X11 (Or.inl (by decide)) (so_268 h0 g _) (by decide) rfl wq1218 dX11_readsStep_58 ?_
        refine x_aload_n hx hb hl 0 rfl dX11_readsStep_61 rfl ?_
        refine x_get (j := 35) (v := .int (xJ (s159 268 35))) hx hb hown hT hE hW cls_X11 (Or.inl (by decide)) (so_268 h0 g _) (by decide) rfl wq1220 dX11_readsStep_62 ?_
        refine x_rd hW (fun x173 ex173 rx173 => ?_)
        have fx173 : x173 = x137 := ex173.trans q170
        refine x_aload_n hx hb hl 0 rfl dX11_readsStep_65 rfl ?_
        refine x_get (j := 37) (v := .int (xJ (s159 268 37))) hx hb hown hT hE hW cls_X11 (Or.inl (by decide)) (so_268 h0 g _) (by decide) rfl wq1222 dX11_readsStep_66 ?_
        refine x_rd hW (fun x174 ex174 rx174 => ?_)
        have q175 : s159 268 37 = x174 := ex174.symm
        refine x_iast hx hb hE hW (by decide) (fun σ => sa_292 h0 g σ) (by omega) (by decide) rx174 dX11_readsStep_69 (fun H locs s176 es176 hW => ?_)
        have q177 : IMn s176 := by rw [es176]; exact IMn_o (by unfold suIMn; first | decide | omega) q160
        have q178 : IMk s176 := by rw [es176]; exact IMk_o (by unfold suIMk; first | decide | omega) q161
        have q179 : IMo s176 := by rw [es176]; exact IMo_o (by unfold suIMo; first | decide | omega) q162
        have q180 : IR s176 := by rw [es176]; exact IR_o (by unfold suIR; first | decide | omega) q163
        have q181 : s176 268 8 = s0 268 8 := (show s176 268 8 = s159 268 8 from by rw [es176, xU_k _ _ _ (by first | decide | omega)]).trans q164
        have q182 : s176 268 58 = s0 268 58 := (show s176 268 58 = s159 268 58 from by rw [es176, xU_k _ _ _ (by first | decide | omega)]).trans q165
        have q183 : s176 268 10 = s0 268 10 := (show s176 268 10 = s159 268 10 from by rw [es176, xU_k _ _ _ (by first | decide | omega)]).trans q166
        have q184 : s176 268 34 = s0 268 34 := (show s176 268 34 = s159 268 34 from by rw [es176, xU_k _ _ _ (by first | decide | omega)]).trans q167
        have q185 : s176 268 17 = s0 268 17 := (show s176 268 17 = s159 268 17 from by rw [es176, xU_k _ _ _ (by first | decide | omega)]).trans q168
        have q186 : s176 268 48 = s0 268 48 := (show s176 268 48 = s159 268 48 from by rw [es176, xU_k _ _ _ (by first | decide | omega)]).trans q169
        have q187 : s176 268 35 = x137 := (show s176 268 35 = s159 268 35 from by rw [es176, xU_k _ _ _ (by first | decide | omega)]).trans q170
        have q188 : s176 268 36 = x141 := (show s176 268 36 = s159 268 36 from by rw [es176, xU_k _ _ _ (by first | decide | omega)]).trans q171
        have q189 : s176 268 37 = x174 := (show s176 268 37 = s159 268 37 from by rw [es176, xU_k _ _ _ (by first | decide | omega)]).trans q175
        have hF190 := hF172.put es176 (by omega)
        have E69 := es176
        have V69 : x173 = s_4 268 35 ∧ x174 = s_4 268 37 := ⟨by omega, by rw [ex174, E56, xU_k _ _ _ (by first | decide | omega), E43, xU_k _ _ _ (by first | decide | omega)]⟩
        refine x_aload_n hx hb hl 0 rfl dX11_readsStep_70 rfl ?_
        refine x_aload_n hx hb hl 0 rfl dX11_readsStep_71 rfl ?_
        refine x_get (j := 35) (v := .int (xJ (s176 268 35))) hx hb hown hT hE hW cls_X11 (Or.inl (by decide)) (so_268 h0 g _) (by decide) rfl wq1220 dX11_readsStep_72 ?_
        refine x_rd hW (fun x191 ex191 rx191 => ?_)
        have fx191 : x191 = x137 := ex191.trans q187
        refine x_iconst hx hb dX11_readsStep_75 ?_
        refine x_iadd hx hb dX11_readsStep_76 ?_
        refine x_put (j := 35) hx hb hown hT hE hW cls_X11 (by decide) (fun σ => so_268 h0 g σ) (by decide) (st_X11_35 h0 s176 268 (x191 + 1)) (ln_X11_35 h0 _ _) wq1220 rfl rfl rfl (by omega) dX11_readsStep_77 (fun H locs s192 es192 hW => ?_)
        have q193 : IMn s192 := by rw [es192]; exact IMn_268 q177 (by omega)
        have q194 : IMk s192 := by rw [es192]; exact IMk_268 q178 (by omega)
        have q195 : IMo s192 := by rw [es192]; exact IMo_o (by unfold suIMo; first | decide | omega) q179
        have q196 : IR s192 := by rw [es192]; exact IR_268 q180 (by omega)
        have q197 : s192 268 8 = s0 268 8 := (show s192 268 8 = s176 268 8 from by rw [es192, xU_j _ _ (by decide)]).trans q181
        have q198 : s192 268 58 = s0 268 58 := (show s192 268 58 = s176 268 58 from by rw [es192, xU_j _ _ (by decide)]).trans q182
        have q199 : s192 268 10 = s0 268 10 := (show s192 268 10 = s176 268 10 from by rw [es192, xU_j _ _ (by decide)]).trans q183
        have q200 : s192 268 34 = s0 268 34 := (show s192 268 34 = s176 268 34 from by rw [es192, xU_j _ _ (by decide)]).trans q184
        have q201 : s192 268 17 = s0 268 17 := (show s192 268 17 = s176 268 17 from by rw [es192, xU_j _ _ (by decide)]).trans q185
        have q202 : s192 268 48 = s0 268 48 := (show s192 268 48 = s176 268 48 from by rw [es192, xU_j _ _ (by decide)]).trans q186
        have q203 : s192 268 35 = (x191 + 1) := by rw [es192, xU_s]
        have q204 : s192 268 36 = x141 := (show s192 268 36 = s176 268 36 from by rw [es192, xU_j _ _ (by decide)]).trans q188
        have q205 : s192 268 37 = x174 := (show s192 268 37 = s176 268 37 from by rw [es192, xU_j _ _ (by decide)]).trans q189
        have hF206 := hF190.put es192 (by omega)
        have E77 := es192
        refine x_aload_n hx hb hl 0 rfl dX11_readsStep_80 rfl ?_
        refine x_aload_n hx hb hl 0 rfl dX11_readsStep_81 rfl ?_
        refine x_get (j := 9) (v := .int (xJ (s192 268 9))) hx hb hown hT hE hW cls_X11 (Or.inl (by decide)) (so_268 h0 g _) (by decide) rfl wq1194 dX11_readsStep_82 ?_
        refine x_rd hW (fun x207 ex207 rx207 => ?_)
        have bx207 : 0 ≤ x207 ∧ x207 ≤ s192 268 10 ∧ s192 268 10 ≤ 240 := by rw [ex207]; exact q196
        have V82 : x207 = s_4 268 9 := by rw [ex207, E77, xU_j _ _ (by decide), E69, xU_k _ _ _ (by first | decide | omega), E56, xU_k _ _ _ (by first | decide | omega), E43, xU_k _ _ _ (by first | decide | omega)]
        refine x_iconst hx hb dX11_readsStep_85 ?_
        refine x_iadd hx hb dX11_readsStep_86 ?_
        refine x_put (j := 9) hx hb hown hT hE hW cls_X11 (by decide) (fun σ => so_268 h0 g σ) (by decide) (st_X11_9 h0 s192 268 (x207 + 1)) (ln_X11_9 h0 _ _) wq1194 rfl rfl rfl (by omega) dX11_readsStep_87 (fun H locs s208 es208 hW => ?_)
        have q209 : IMn s208 := by rw [es208]; exact IMn_268 q193 (by omega)
        have q210 : IMk s208 := by rw [es208]; exact IMk_268 q194 (by omega)
        have q211 : IMo s208 := by rw [es208]; exact IMo_o (by unfold suIMo; first | decide | omega) q195
        have q212 : IR s208 := by rw [es208]; exact IR_268 q196 (by omega)
        have q213 : s208 268 8 = s0 268 8 := (show s208 268 8 = s192 268 8 from by rw [es208, xU_j _ _ (by decide)]).trans q197
        have q214 : s208 268 58 = s0 268 58 := (show s208 268 58 = s192 268 58 from by rw [es208, xU_j _ _ (by decide)]).trans q198
        have q215 : s208 268 10 = s0 268 10 := (show s208 268 10 = s192 268 10 from by rw [es208, xU_j _ _ (by decide)]).trans q199
        have q216 : s208 268 34 = s0 268 34 := (show s208 268 34 = s192 268 34 from by rw [es208, xU_j _ _ (by decide)]).trans q200
        have q217 : s208 268 17 = s0 268 17 := (show s208 268 17 = s192 268 17 from by rw [es208, xU_j _ _ (by decide)]).trans q201
        have q218 : s208 268 48 = s0 268 48 := (show s208 268 48 = s192 268 48 from by rw [es208, xU_j _ _ (by decide)]).trans q202
        have q219 : s208 268 35 = (x191 + 1) := (show s208 268 35 = s192 268 35 from by rw [es208, xU_j _ _ (by decide)]).trans q203
        have q220 : s208 268 36 = x141 := (show s208 268 36 = s192 268 36 from by rw [es208, xU_j _ _ (by decide)]).trans q204
        have q221 : s208 268 37 = x174 := (show s208 268 37 = s192 268 37 from by rw [es208, xU_j _ _ (by decide)]).trans q205
        have q222 : s208 268 9 = (x207 + 1) := by rw [es208, xU_s]
        have hF223 := hF206.put es208 (by omega)
        have E87 := es208
        have S87 : s208 290 = xud (s_4 290) (s_4 268 35) (s_4 268 36) ∧ s208 291 = xud (s_4 291) (s_4 268 35) (s_4 268 34) ∧ s208 292 = xud (s_4 292) (s_4 268 35) (s_4 268 37) := ⟨by rw [E87, xU_k _ _ _ (by first | decide | omega), E77, xU_k _ _ _ (by first | decide | omega), E69, xU_k _ _ _ (by first | decide | omega), E56, xU_k _ _ _ (by first | decide | omega), E43, xU_xud, V43.1, V43.2], by rw [E87, xU_k _ _ _ (by first | decide | omega), E77, xU_k _ _ _ (by first | decide | omega), E69, xU_k _ _ _ (by first | decide | omega), E56, xU_xud, E43, xU_k _ _ _ (by first | decide | omega), V56.1, V56.2], by rw [E87, xU_k _ _ _ (by first | decide | omega), E77, xU_k _ _ _ (by first | decide | omega), E69, xU_xud, E56, xU_k _ _ _ (by first | decide | omega), E43, xU_k _ _ _ (by first | decide | omega), V69.1, V69.2]⟩
        have S88 : s208 268 35 = s_4 268 35 + 1 ∧ s208 268 34 = s_4 268 34 ∧ s208 268 9 = s_4 268 9 + 1 := ⟨by rw [E87, xU_j _ _ (by decide), E77, xU_s]; omega, by rw [E87, xU_j _ _ (by decide), E77, xU_j _ _ (by decide), E69, xU_k _ _ _ (by first | decide | omega), E56, xU_k _ _ _ (by first | decide | omega), E43, xU_k _ _ _ (by first | decide | omega)], by rw [E87, xU_s]; omega⟩
        have O87 := zst_push (σ := s_4) (τ := s208) (by omega) S88.1 S87.1 S87.2.1 S87.2.2
        have R88 : zR0 s208 := v4_0.2.push S88.1 S87.1 (by omega)
        have R87 : zRW s208 := v4_0.1.push ⟨S88.1, by omega⟩ S88.2.1 S87.2.1 S87.2.2 (by omega)
        have Z87 : zWY (xm8 (s0 276)) (s0 268 10) Z true (s208 268 9) (s208 268 34) (s208 289) (zst s208) := by
          rw [O87, S88.2.1, show s208 289 = s_4 289 from by rw [E87, xU_k _ _ _ (by first | decide | omega), E77, xU_k _ _ _ (by first | decide | omega), E69, xU_k _ _ _ (by first | decide | omega), E56, xU_k _ _ _ (by first | decide | omega), E43, xU_k _ _ _ (by first | decide | omega)]]
          exact v4_1.open_ (by omega) v4_2.2 v4_2.1 (by omega) (by omega) S88.2.2
        have G87 : s208 276 = s0 276 := hF223 276 (by first | decide | omega)
        have N87 : s208 268 10 = s0 268 10 := q215
        refine x_aload_n hx hb hl 0 rfl dX11_readsStep_90 rfl ?_
        refine x_gov (x_runV (As := []) hx hb hml hown hT hE hW hl.1 (Or.inl (by decide)) (so_268 h0 g _) rfl cf_X11_readsTimes wq1450 wq113 wq1448 (c_X11_readsTimesW l D g T h0 s208 hW.2.1 q209 q210 q211 q212) ⟨rfl, rfl, ⟨by decide, by decide⟩, ⟨by decide, by decide⟩⟩ rfl rfl (Nat.le_of_ble_eq_true rfl) dX11_readsStep_91) hW (fun s225 H locs hp226 hW => ?_)
        obtain ⟨fs225, hp226⟩ := hp226
        have hF227 := hF223.call fs225 (fun k h => by omega)
        have ghp226 := hp226.2
        have A91 : (zRW s225 ∧ zR0 s225) ∧ zWY (xm8 (s0 276)) (s0 268 10) Z true (s225 268 36) (s225 268 34) (s225 289) (zst s225) ∧ (s225 268 37 = wtm (zch (xm8 (s0 276)) (s0 268 10) (s225 268 36)) ∧ s225 268 9 = wp1 (xm8 (s0 276)) (s0 268 10) (s225 268 36)) := by
          obtain ⟨h1, h2, h3⟩ := ghp226
          rw [G87, N87] at h2 h3
          have k5 : s225 268 35 = s208 268 35 := by omega
          have k4 : s225 268 34 = s208 268 34 := by omega
          have b5 := R87.2.1
          have b4 := R87.1
          refine ⟨⟨R87.f ⟨by omega, by omega⟩ ⟨by omega, by omega⟩ (fs225 291 (by first | decide | omega)) (fs225 292 (by first | decide | omega)), R88.f (by omega) (fs225 290 (by first | decide | omega))⟩, ?_, ?_⟩
          · rw [zst_f k5 (fs225 290 (by first | decide | omega)) (fs225 291 (by first | decide | omega)) (fs225 292 (by first | decide | omega)), h1, k4, fs225 289 (by first | decide | omega)]; exact Z87
          · rw [h1]; exact ⟨h2, h3⟩
        have H91 := ghp226
        have P91 := wp1_cs (xm8 (s0 276)) (s0 268 10) (s225 268 36)
        have Q91 := A91.2.2.2
        refine lv_goto (tgt := 4) hx hb dX11_readsStep_94 (by decide) ?_
        exact ih4 s225 H locs ls hF227 hp226.1.1 hp226.1.2.1 hp226.1.2.2.1 hp226.1.2.2.2.1 (hp226.1.2.2.2.2.1.trans q213) (hp226.1.2.2.2.2.2.1.trans q214) (hp226.1.2.2.2.2.2.2.1.trans q215) (hp226.1.2.2.2.2.2.2.2.1.trans q216) (hp226.1.2.2.2.2.2.2.2.2.2.1.trans q217) (hp226.1.2.2.2.2.2.2.2.2.2.2.1.trans q218) (A91.1) (A91.2.1) (A91.2.2) (by omega) (by have hm := hm_4 (); omega) hW (lv_sub hl [0] rfl)
      refine x_aload_n hx hb hl 0 rfl dX11_readsStep_21 rfl ?_
      refine x_iconst hx hb dX11_readsStep_22 ?_
      refine x_aload_n hx hb hl 0 rfl dX11_readsStep_23 rfl ?_
      refine x_get (j := 9) (v := .int (xJ (s_4 268 9))) hx hb hown hT hE hW cls_X11 (Or.inl (by decide)) (so_268 h0 g _) (by decide) rfl wq1194 dX11_readsStep_24 ?_
      refine x_rd hW (fun x228 ex228 rx228 => ?_)
      have bx228 : 0 ≤ x228 ∧ x228 ≤ s_4 268 10 ∧ s_4 268 10 ≤ 240 := by rw [ex228]; exact q4_3
      refine x_goi (x_runV (As := [.int (xJ 5), .int (xJ x228)]) hx hb hml hown hT hE hW hl.1 (Or.inl (by decide)) (so_268 h0 g _) rfl cf_X11_wrongAt wq1401 wq107 wq1399 (c_X11_wrongAtW l D g T h0 s_4 hW.2.1 5 (by decide) x228 rx228 (by omega) q4_0 q4_1 q4_2 q4_3) ⟨rfl, rfl, ⟨by decide, by decide⟩, ⟨by decide, by decide⟩⟩ rfl rfl (Nat.le_of_ble_eq_true rfl) dX11_readsStep_27) hW (fun x229 s230 H locs rx229 hp231 hW => ?_)
      obtain ⟨fs230, hp231⟩ := hp231
      have hF232 := hF_4.call fs230 (fun k h => by omega)
      have ghp231 := hp231.2
      rw [eQ]
      exact x_zret hx hb hr hlk hW (by omega) ⟨hF232, ⟨hp231.1.1, hp231.1.2.1, hp231.1.2.2.1, hp231.1.2.2.2.1, (hp231.1.2.2.2.2.1.trans q4_4), (hp231.1.2.2.2.2.2.1.trans q4_5), (hp231.1.2.2.2.2.2.2.1.trans q4_6), (hp231.1.2.2.2.2.2.2.2.2.2.2.2.2.1.trans q4_9), (hp231.1.2.2.2.2.2.2.2.2.2.2.2.2.2.1.trans q4_10), trivial⟩, by
          have z := v4_1.x.five (p1 := s_4 268 9) (by omega) v4_2.2 (by omega) (by omega)
          exact Or.inl ⟨by omega, by omega, by omega, by omega⟩⟩ dX11_readsStep_30
  exact L4 ((241 - s2 268 9 : Int).toNat + 1) s2 H locs ls hF4 hp3.1.1 hp3.1.2.1 hp3.1.2.2.1 hp3.1.2.2.2.1 (hp3.1.2.2.2.2.1.trans k268_8) (hp3.1.2.2.2.2.2.1.trans k268_58) (hp3.1.2.2.2.2.2.2.1.trans k268_10) (hp3.1.2.2.2.2.2.2.2.1.trans k268_34) (hp3.1.2.2.2.2.2.2.2.2.2.1.trans k268_17) (hp3.1.2.2.2.2.2.2.2.2.2.2.1.trans k268_48) (A1.1) (A1.2.1) (A1.2.2) (by omega) (Nat.lt_succ_self _) hW (lv_sub hl [0] rfl)



set_option maxHeartbeats 4000000 in
set_option maxRecDepth 100000 in
theorem c_X11_walkJ (l : Launch) (D : va_G) (g : xG) (T : Nat × Nat × Nat) (h0 : Nat) (s0 : xS) (hσ : xRR s0) (j : Int) (rj : xR j) (n : Int) (rn : xR n) (p0 : IMn s0) (p1 : IMk s0) (p2 : IMo s0) : Met l yX11_walk (xws yX11_walk cX11_walk 5 (some .int)) { frames := 3, cells := 0, slots := 0, locals := 70 } (xP [.ref (h0 + 268), .int (xJ j), .int (xJ n)] D g T h0 s0) (xQi D g h0 (fun r τ => xFr (fun k => k = 268 ∨ k = 269 ∨ k = 274 ∨ k = 275 ∨ k = 289 ∨ k = 290 ∨ k = 291 ∨ k = 292) s0 τ ∧ (((IMn τ) ∧ (IMk τ) ∧ (IMo τ) ∧ (τ 268 58 = s0 268 58) ∧ (τ 268 17 = s0 268 17) ∧ (τ 268 48 = s0 268 48) ∧ True) ∧ (((j < 0 ∨ 1 < j ∨ n < 1 ∨ 80 < n ∨ s0 268 8 < n) ∧ τ 268 8 = s0 268 8 ∧ r = -1 ∧ τ 269 = s0 269 ∧ τ 274 = s0 274 ∧ τ 275 = s0 275) ∨ (¬ (j < 0 ∨ 1 < j ∨ n < 1 ∨ 80 < n ∨ s0 268 8 < n) ∧ τ 268 8 = 0 ∧ (((zws (xm8 (s0 276)) n 1 (2 * n + 1).toNat true 0 0 (fun _ => 0) []).1 ≠ 0 ∧ r = (zws (xm8 (s0 276)) n 1 (2 * n + 1).toNat true 0 0 (fun _ => 0) []).1 ∧ τ 269 = s0 269 ∧ τ 274 = s0 274 ∧ τ 275 = s0 275) ∨ ((zws (xm8 (s0 276)) n 1 (2 * n + 1).toNat true 0 0 (fun _ => 0) []).1 = 0 ∧ r = (zws (xm8 (s0 276)) n 1 (2 * n + 1).toNat true 0 0 (fun _ => 0) []).2.1 ∧ τ 274 = xud (s0 274) j (zws (xm8 (s0 276)) n 1 (2 * n + 1).toNat true 0 0 (fun _ => 0) []).2.1 ∧ τ 269 = xud (s0 269) (2 + j) 0 ∧ zCu 2 (zws (xm8 (s0 276)) n 1 (2 * n + 1).toNat true 0 0 (fun _ => 0) []).2.1 (zws (xm8 (s0 276)) n 1 (2 * n + 1).toNat true 0 0 (fun _ => 0) []).2.2 (fun i => τ 275 (60 * j + i)) ∧ (∀ i : Int, (i < 60 * j ∨ 60 * j + 60 ≤ i) → τ 275 i = s0 275 i) ∧ ((∀ i : Int, 0 ≤ i → i < 120 → 0 ≤ s0 275 i ∧ s0 275 i ≤ 8) → ∀ i : Int, 0 ≤ i → i < 120 → 0 ≤ τ 275 i ∧ τ 275 i ≤ 8)))))))) 0 0 (xA h0) := by
  refine x_met hσ (by decide) (Nat.le_of_ble_eq_true rfl) ?_
  intro p e s m args below meth c hx hb hr hml hown hT hlk hnm hE hW ls hl
  have hl : lv_has ls 5 [(0, .ref (h0 + 268)), (1, .int (xJ j)), (2, .int (xJ n))] := hl
  obtain ⟨Q, eQ⟩ : ∃ Q, Q = MQ below (xQi D g h0 (fun r τ => xFr (fun k => k = 268 ∨ k = 269 ∨ k = 274 ∨ k = 275 ∨ k = 289 ∨ k = 290 ∨ k = 291 ∨ k = 292) s0 τ ∧ (((IMn τ) ∧ (IMk τ) ∧ (IMo τ) ∧ (τ 268 58 = s0 268 58) ∧ (τ 268 17 = s0 268 17) ∧ (τ 268 48 = s0 268 48) ∧ True) ∧ (((j < 0 ∨ 1 < j ∨ n < 1 ∨ 80 < n ∨ s0 268 8 < n) ∧ τ 268 8 = s0 268 8 ∧ r = -1 ∧ τ 269 = s0 269 ∧ τ 274 = s0 274 ∧ τ 275 = s0 275) ∨ (¬ (j < 0 ∨ 1 < j ∨ n < 1 ∨ 80 < n ∨ s0 268 8 < n) ∧ τ 268 8 = 0 ∧ (((zws (xm8 (s0 276)) n 1 (2 * n + 1).toNat true 0 0 (fun _ => 0) []).1 ≠ 0 ∧ r = (zws (xm8 (s0 276)) n 1 (2 * n + 1).toNat true 0 0 (fun _ => 0) []).1 ∧ τ 269 = s0 269 ∧ τ 274 = s0 274 ∧ τ 275 = s0 275) ∨ ((zws (xm8 (s0 276)) n 1 (2 * n + 1).toNat true 0 0 (fun _ => 0) []).1 = 0 ∧ r = (zws (xm8 (s0 276)) n 1 (2 * n + 1).toNat true 0 0 (fun _ => 0) []).2.1 ∧ τ 274 = xud (s0 274) j (zws (xm8 (s0 276)) n 1 (2 * n + 1).toNat true 0 0 (fun _ => 0) []).2.1 ∧ τ 269 = xud (s0 269) (2 + j) 0 ∧ zCu 2 (zws (xm8 (s0 276)) n 1 (2 * n + 1).toNat true 0 0 (fun _ => 0) []).2.1 (zws (xm8 (s0 276)) n 1 (2 * n + 1).toNat true 0 0 (fun _ => 0) []).2.2 (fun i => τ 275 (60 * j + i)) ∧ (∀ i : Int, (i < 60 * j ∨ 60 * j + 60 ≤ i) → τ 275 i = s0 275 i) ∧ ((∀ i : Int, 0 ≤ i → i < 120 → 0 ≤ s0 275 i ∧ s0 275 i ≤ 8) → ∀ i : Int, 0 ≤ i → i < 120 → 0 ≤ τ 275 i ∧ τ 275 i ≤ 8)))))))) args s 0 0 (xA h0) := ⟨_, rfl⟩
  rw [← eQ]
  generalize hHe : ([] : List Loc) = locs at hW ⊢
  obtain ⟨H, eH⟩ : ∃ H, H = s.heap := ⟨_, rfl⟩
  rw [← eH] at hW ⊢
  have hF : xFr (fun k => k = 268 ∨ k = 269 ∨ k = 274 ∨ k = 275 ∨ k = 289 ∨ k = 290 ∨ k = 291 ∨ k = 292) s0 s0 := xFr.rf
  have k268_58 : s0 268 58 = s0 268 58 := rfl
  have k268_17 : s0 268 17 = s0 268 17 := rfl
  have k268_48 : s0 268 48 = s0 268 48 := rfl
  have k268_8 : s0 268 8 = s0 268 8 := rfl
  obtain ⟨Z9, eZ9⟩ : ∃ Z, Z = (zws (xm8 (s0 276)) n 1 (2 * n + 1).toNat true 0 0 (fun _ => 0) []) := ⟨_, rfl⟩
  refine x_iload_n hx hb hl 1 rfl dX11_walk_0 rfl ?_
  refine x_iconst hx hb dX11_walk_1 ?_
  refine x_goi (x_runS (As := [.int (xJ j), .int (xJ 2)]) hx hb hml hown hT hE hW hl.1 cf_X11_isFive wq1412 wq1411 (c_X11_isFive l D g T h0 s0 hW.2.1 j rj 2 (by decide)) ⟨rfl, rfl, ⟨by decide, by decide⟩, ⟨by decide, by decide⟩⟩ rfl rfl (Nat.le_of_ble_eq_true rfl) dX11_walk_2) hW (fun x1 s2 H locs rx1 hp3 hW => ?_)
  obtain ⟨es2, hp3⟩ := hp3
  subst es2
  have ghp3 := hp3
  refine x_if_eq (tgt := 26) hx hb rx1 dX11_walk_5 (by decide) (fun c4 => ?_) (fun c4 => ?_)
  · skip
    refine x_iconst hx hb dX11_walk_26 ?_
    rw [eQ]
    exact x_iret hx hb hr hlk hW (by decide) ⟨hF, ⟨p0, p1, p2, k268_58, k268_17, k268_48, trivial⟩, Or.inl ⟨by omega, by omega, by omega, rfl, rfl, rfl⟩⟩ dX11_walk_27
  refine x_iload_n hx hb hl 2 rfl dX11_walk_8 rfl ?_
  refine x_iconst hx hb dX11_walk_9 ?_
  refine x_bipush hx hb dX11_walk_10 (by decide) ?_
  refine x_goi (x_runS (As := [.int (xJ n), .int (xJ 1), .int (xJ 80)]) hx hb hml hown hT hE hW hl.1 cf_X11_in wq1383 wq1382 (c_X11_in l D g T h0 s0 hW.2.1 n rn 1 (by decide) 80 (by decide)) ⟨rfl, rfl, ⟨by decide, by decide⟩, ⟨by decide, by decide⟩⟩ rfl rfl (Nat.le_of_ble_eq_true rfl) dX11_walk_12) hW (fun x5 s6 H locs rx5 hp7 hW => ?_)
  obtain ⟨es6, hp7⟩ := hp7
  subst es6
  have ghp7 := hp7
  refine x_if_eq (tgt := 26) hx hb rx5 dX11_walk_15 (by decide) (fun c8 => ?_) (fun c8 => ?_)
  · skip
    refine x_iconst hx hb dX11_walk_26 ?_
    rw [eQ]
    exact x_iret hx hb hr hlk hW (by decide) ⟨hF, ⟨p0, p1, p2, k268_58, k268_17, k268_48, trivial⟩, Or.inl ⟨by omega, by omega, by omega, rfl, rfl, rfl⟩⟩ dX11_walk_27
  refine x_iload_n hx hb hl 2 rfl dX11_walk_18 rfl ?_
  refine x_aload_n hx hb hl 0 rfl dX11_walk_19 rfl ?_
  refine x_get (j := 8) (v := .int (xJ (s0 268 8))) hx hb hown hT hE hW cls_X11 (Or.inl (by decide)) (so_268 h0 g _) (by decide) rfl wq1193 dX11_walk_20 ?_
  refine x_rd hW (fun x9 ex9 rx9 => ?_)
  have bx9 : 0 ≤ x9 ∧ x9 ≤ 260 := by rw [ex9]; exact IMn.t p0
  have fx9 : x9 = s0 268 8 := ex9.trans k268_8
  refine x_icmp_le (tgt := 28) hx hb rn rx9 dX11_walk_23 (by decide) (fun c10 => ?_) (fun c10 => ?_)
  · skip
    refine x_aload_n hx hb hl 0 rfl dX11_walk_28 rfl ?_
    refine x_iconst hx hb dX11_walk_29 ?_
    refine x_put (j := 9) hx hb hown hT hE hW cls_X11 (by decide) (fun σ => so_268 h0 g σ) (by decide) (st_X11_9 h0 s0 268 0) (ln_X11_9 h0 _ _) wq1194 rfl rfl rfl (by decide) dX11_walk_30 (fun H locs s11 es11 hW => ?_)
    have q12 : IMn s11 := by rw [es11]; exact IMn_268 p0 (by omega)
    have q13 : IMk s11 := by rw [es11]; exact IMk_268 p1 (by omega)
    have q14 : IMo s11 := by rw [es11]; exact IMo_o (by unfold suIMo; first | decide | omega) p2
    have q15 : s11 268 58 = s0 268 58 := (show s11 268 58 = s0 268 58 from by rw [es11, xU_j _ _ (by decide)]).trans k268_58
    have q16 : s11 268 17 = s0 268 17 := (show s11 268 17 = s0 268 17 from by rw [es11, xU_j _ _ (by decide)]).trans k268_17
    have q17 : s11 268 48 = s0 268 48 := (show s11 268 48 = s0 268 48 from by rw [es11, xU_j _ _ (by decide)]).trans k268_48
    have q18 : s11 268 8 = s0 268 8 := (show s11 268 8 = s0 268 8 from by rw [es11, xU_j _ _ (by decide)]).trans k268_8
    have q19 : s11 268 9 = 0 := by rw [es11, xU_s]
    have hF20 := hF.put es11 (by omega)
    have E30 := es11
    refine x_aload_n hx hb hl 0 rfl dX11_walk_33 rfl ?_
    refine x_iload_n hx hb hl 2 rfl dX11_walk_34 rfl ?_
    refine x_put (j := 10) hx hb hown hT hE hW cls_X11 (by decide) (fun σ => so_268 h0 g σ) (by decide) (st_X11_10 h0 s11 268 n) (ln_X11_10 h0 _ _) wq1195 rfl rfl rfl rn dX11_walk_35 (fun H locs s21 es21 hW => ?_)
    have q22 : IMn s21 := by rw [es21]; exact IMn_268 q12 (by omega)
    have q23 : IMk s21 := by rw [es21]; exact IMk_268 q13 (by omega)
    have q24 : IMo s21 := by rw [es21]; exact IMo_o (by unfold suIMo; first | decide | omega) q14
    have q25 : s21 268 58 = s0 268 58 := (show s21 268 58 = s11 268 58 from by rw [es21, xU_j _ _ (by decide)]).trans q15
    have q26 : s21 268 17 = s0 268 17 := (show s21 268 17 = s11 268 17 from by rw [es21, xU_j _ _ (by decide)]).trans q16
    have q27 : s21 268 48 = s0 268 48 := (show s21 268 48 = s11 268 48 from by rw [es21, xU_j _ _ (by decide)]).trans q17
    have q28 : s21 268 8 = s0 268 8 := (show s21 268 8 = s11 268 8 from by rw [es21, xU_j _ _ (by decide)]).trans q18
    have q29 : s21 268 9 = 0 := (show s21 268 9 = s11 268 9 from by rw [es21, xU_j _ _ (by decide)]).trans q19
    have q30 : s21 268 10 = n := by rw [es21, xU_s]
    have hF31 := hF20.put es21 (by omega)
    have q32 : IR s21 := by unfold IR; omega
    have hN : ¬ (j < 0 ∨ 1 < j ∨ n < 1 ∨ 80 < n ∨ s0 268 8 < n) := fun h => by rcases h with h | h | h | h | h <;> omega
    have E35 := es21
    refine x_aload_n hx hb hl 0 rfl dX11_walk_38 rfl ?_
    refine x_iconst hx hb dX11_walk_39 ?_
    refine x_put (j := 34) hx hb hown hT hE hW cls_X11 (by decide) (fun σ => so_268 h0 g σ) (by decide) (st_X11_34 h0 s21 268 0) (ln_X11_34 h0 _ _) wq1219 rfl rfl rfl (by decide) dX11_walk_40 (fun H locs s33 es33 hW => ?_)
    have q34 : IMn s33 := by rw [es33]; exact IMn_268 q22 (by omega)
    have q35 : IMk s33 := by rw [es33]; exact IMk_268 q23 (by omega)
    have q36 : IMo s33 := by rw [es33]; exact IMo_o (by unfold suIMo; first | decide | omega) q24
    have q37 : s33 268 58 = s0 268 58 := (show s33 268 58 = s21 268 58 from by rw [es33, xU_j _ _ (by decide)]).trans q25
    have q38 : s33 268 17 = s0 268 17 := (show s33 268 17 = s21 268 17 from by rw [es33, xU_j _ _ (by decide)]).trans q26
    have q39 : s33 268 48 = s0 268 48 := (show s33 268 48 = s21 268 48 from by rw [es33, xU_j _ _ (by decide)]).trans q27
    have q40 : s33 268 8 = s0 268 8 := (show s33 268 8 = s21 268 8 from by rw [es33, xU_j _ _ (by decide)]).trans q28
    have q41 : s33 268 9 = 0 := (show s33 268 9 = s21 268 9 from by rw [es33, xU_j _ _ (by decide)]).trans q29
    have q42 : s33 268 10 = n := (show s33 268 10 = s21 268 10 from by rw [es33, xU_j _ _ (by decide)]).trans q30
    have q43 : IR s33 := by rw [es33]; exact IR_268 q32 (by omega)
    have q44 : s33 268 34 = 0 := by rw [es33, xU_s]
    have hF45 := hF31.put es33 (by omega)
    have E40 := es33
    refine x_aload_n hx hb hl 0 rfl dX11_walk_43 rfl ?_
    refine x_iconst hx hb dX11_walk_44 ?_
    refine x_put (j := 35) hx hb hown hT hE hW cls_X11 (by decide) (fun σ => so_268 h0 g σ) (by decide) (st_X11_35 h0 s33 268 0) (ln_X11_35 h0 _ _) wq1220 rfl rfl rfl (by decide) dX11_walk_45 (fun H locs s46 es46 hW => ?_)
    have q47 : IMn s46 := by rw [es46]; exact IMn_268 q34 (by omega)
    have q48 : IMk s46 := by rw [es46]; exact IMk_268 q35 (by omega)
    have q49 : IMo s46 := by rw [es46]; exact IMo_o (by unfold suIMo; first | decide | omega) q36
    have q50 : s46 268 58 = s0 268 58 := (show s46 268 58 = s33 268 58 from by rw [es46, xU_j _ _ (by decide)]).trans q37
    have q51 : s46 268 17 = s0 268 17 := (show s46 268 17 = s33 268 17 from by rw [es46, xU_j _ _ (by decide)]).trans q38
    have q52 : s46 268 48 = s0 268 48 := (show s46 268 48 = s33 268 48 from by rw [es46, xU_j _ _ (by decide)]).trans q39
    have q53 : s46 268 8 = s0 268 8 := (show s46 268 8 = s33 268 8 from by rw [es46, xU_j _ _ (by decide)]).trans q40
    have q54 : s46 268 9 = 0 := (show s46 268 9 = s33 268 9 from by rw [es46, xU_j _ _ (by decide)]).trans q41
    have q55 : s46 268 10 = n := (show s46 268 10 = s33 268 10 from by rw [es46, xU_j _ _ (by decide)]).trans q42
    have q56 : IR s46 := by rw [es46]; exact IR_268 q43 (by omega)
    have q57 : s46 268 34 = 0 := (show s46 268 34 = s33 268 34 from by rw [es46, xU_j _ _ (by decide)]).trans q44
    have q58 : s46 268 35 = 0 := by rw [es46, xU_s]
    have hF59 := hF45.put es46 (by omega)
    have G45 : s46 276 = s0 276 := hF59 276 (by first | decide | omega)
    have N45 : s46 268 10 = n := by omega
    have Z45 : zWY (xm8 (s46 276)) (s46 268 10) Z9 true (s46 268 9) (s46 268 34) (s46 289) (zst s46) := by
      rw [G45, N45, show s46 268 9 = 0 from by omega, show s46 268 34 = 0 from by omega, show zst s46 = [] from if_pos (by omega)]
      rw [eZ9]
      exact zWY.new _ _ _ _
    have E45 := es46
    have Q45 : s46 269 = s0 269 ∧ s46 274 = s0 274 ∧ s46 275 = s0 275 := by rw [E45, xU_k _ _ _ (by first | decide | omega), xU_k _ _ _ (by first | decide | omega), xU_k _ _ _ (by first | decide | omega), E40, xU_k _ _ _ (by first | decide | omega), xU_k _ _ _ (by first | decide | omega), xU_k _ _ _ (by first | decide | omega), E35, xU_k _ _ _ (by first | decide | omega), xU_k _ _ _ (by first | decide | omega), xU_k _ _ _ (by first | decide | omega), E30, xU_k _ _ _ (by first | decide | omega), xU_k _ _ _ (by first | decide | omega), xU_k _ _ _ (by first | decide | omega)]; exact ⟨rfl, rfl, rfl⟩
    refine x_aload_n hx hb hl 0 rfl dX11_walk_48 rfl ?_
    refine x_goi (x_runV (As := []) hx hb hml hown hT hE hW hl.1 (Or.inl (by decide)) (so_268 h0 g _) rfl cf_X11_readsStep wq1446 wq112 wq1444 (c_X11_readsStepJ l D g T h0 s46 hW.2.1 Z9 (zRW.new (by omega) (by omega)) (zR0.new (by omega)) (Z45) q47 q48 q49 q56) ⟨rfl, rfl, ⟨by decide, by decide⟩, ⟨by decide, by decide⟩⟩ rfl rfl (Nat.le_of_ble_eq_true rfl) dX11_walk_49) hW (fun x60 s61 H locs rx60 hp62 hW => ?_)
    obtain ⟨fs61, hp62⟩ := hp62
    have hF63 := hF59.call fs61 (fun k h => by omega)
    have ghp62 := hp62.2
    have H49 := ghp62
    rw [G45, N45] at H49
    have Q49 : s61 269 = s0 269 ∧ s61 274 = s0 274 ∧ s61 275 = s0 275 := ⟨(fs61 269 (by first | decide | omega)).trans Q45.1, (fs61 274 (by first | decide | omega)).trans Q45.2.1, (fs61 275 (by first | decide | omega)).trans Q45.2.2⟩
    refine lv_istore_n (lv' := [(3, .int (xJ x60)), (0, .ref (h0 + 268)), (1, .int (xJ j)), (2, .int (xJ n))]) hx hb dX11_walk_52 rfl hl (by decide) rfl (fun ls hl => ?_)
    have L53 : ∀ (fu : Nat) (i3_53 : Int) (s_53 : xS) (H : Heap) (locs : List Loc) (ls : Array Slot), (xR i3_53) → (xFr (fun k => k = 268 ∨ k = 269 ∨ k = 274 ∨ k = 275 ∨ k = 289 ∨ k = 290 ∨ k = 291 ∨ k = 292) s0 s_53) → (IMn s_53) → (IMk s_53) → (IMo s_53) → (IR s_53) → (s_53 268 8 = s0 268 8) → (s_53 268 58 = s0 268 58) → (s_53 268 10 = n) → (s_53 268 17 = s0 268 17) → (s_53 268 48 = s0 268 48) → ((i3_53 = 0 ∧ Z9.1 ≠ 0 ∧ s_53 268 11 = Z9.1) ∨ (i3_53 = 1 ∧ zRW s_53 ∧ zR0 s_53 ∧ zWY (xm8 (s0 276)) n Z9 false (s_53 268 9) (s_53 268 34) (s_53 289) (zst s_53) ∧ (zch (xm8 (s0 276)) n (s_53 268 9) ≠ 41 ∨ s_53 268 35 = 0))) → (s_53 269 = s0 269 ∧ s_53 274 = s0 274 ∧ s_53 275 = s0 275) → (2 * (241 - s_53 268 9) + i3_53).toNat < fu → xW D g h0 s H locs s_53 → lv_has ls 5 [(0, .ref (h0 + 268)), (1, .int (xJ j)), (3, .int (xJ i3_53))] → W p l e { frames := 3, cells := 0, slots := 0, locals := 70 } s m args below meth c H locs 0 0 Q (F0 m 53 ls []) := by
      intro fu
      induction fu with
      | zero => intro i3_53 s_53 H locs ls ri3_53 hF_53 q53_0 q53_1 q53_2 q53_3 q53_4 q53_5 q53_6 q53_7 q53_8 v53_0 v53_1 hm; exact absurd hm (Nat.not_lt_zero _)
      | succ fu ih53 =>
        intro i3_53 s_53 H locs ls ri3_53 hF_53 q53_0 q53_1 q53_2 q53_3 q53_4 q53_5 q53_6 q53_7 q53_8 v53_0 v53_1 hm hW hl
        have hm_53 := fun (_ : Unit) => hm
        clear hm
        have r53 : 0 ≤ s_53 268 9 ∧ s_53 268 9 ≤ s_53 268 10 ∧ s_53 268 10 ≤ 240 := q53_3
        refine x_iload_n hx hb hl 2 rfl dX11_walk_53 rfl ?_
        have J83 : ∀ (ls : Array Slot), (i3_53 = 0 ∨ (i3_53 = 1 ∧ s_53 268 9 ≥ n ∧ s_53 268 35 ≤ 0)) → lv_has ls 5 [(0, .ref (h0 + 268)), (1, .int (xJ j)), (3, .int (xJ i3_53))] → W p l e { frames := 3, cells := 0, slots := 0, locals := 70 } s m args below meth c H locs 0 0 Q (F0 m 83 ls []) := by
          intro ls v83_0  hl
          refine x_aload_n hx hb hl 0 rfl dX11_walk_83 rfl ?_
          refine x_iconst hx hb dX11_walk_84 ?_
          refine x_put (j := 8) hx hb hown hT hE hW cls_X11 (by decide) (fun σ => so_268 h0 g σ) (by decide) (st_X11_8 h0 s_53 268 0) (ln_X11_8 h0 _ _) wq1193 rfl rfl rfl (by decide) dX11_walk_85 (fun H locs s64 es64 hW => ?_)
          have q65 : IMn s64 := by rw [es64]; exact IMn_268 q53_0 (by omega)
          have q66 : IMk s64 := by rw [es64]; exact IMk_268 q53_1 (by omega)
          have q67 : IMo s64 := by rw [es64]; exact IMo_o (by unfold suIMo; first | decide | omega) q53_2
          have q68 : IR s64 := by rw [es64]; exact IR_268 q53_3 (by omega)
          have q69 : s64 268 8 = 0 := by rw [es64, xU_s]
          have q70 : s64 268 58 = s0 268 58 := (show s64 268 58 = s_53 268 58 from by rw [es64, xU_j _ _ (by decide)]).trans q53_5
          have q71 : s64 268 10 = n := (show s64 268 10 = s_53 268 10 from by rw [es64, xU_j _ _ (by decide)]).trans q53_6
          have q72 : s64 268 17 = s0 268 17 := (show s64 268 17 = s_53 268 17 from by rw [es64, xU_j _ _ (by decide)]).trans q53_7
          have q73 : s64 268 48 = s0 268 48 := (show s64 268 48 = s_53 268 48 from by rw [es64, xU_j _ _ (by decide)]).trans q53_8
          have hF74 := hF_53.put es64 (by omega)
          have Y85 : s64 268 34 = s_53 268 34 ∧ s64 268 11 = s_53 268 11 := by rw [es64, xU_j _ _ (by decide), xU_j _ _ (by decide)]; exact ⟨rfl, rfl⟩
          have Z85 : i3_53 = 0 ∨ (0 ≤ s_53 268 34 ∧ s_53 268 34 ≤ 60) := v53_0.elim (fun q => Or.inl q.1) (fun q => Or.inr q.2.1.1)
          have Q85 : s64 269 = s0 269 ∧ s64 274 = s0 274 ∧ s64 275 = s0 275 := by rw [es64, xU_k _ _ _ (by first | decide | omega), xU_k _ _ _ (by first | decide | omega), xU_k _ _ _ (by first | decide | omega)]; exact v53_1
          have N85 : s64 289 = s_53 289 := by rw [es64, xU_k _ _ _ (by first | decide | omega)]
          refine x_iload_n hx hb hl 2 rfl dX11_walk_88 rfl ?_
          refine x_if_ne (tgt := 97) hx hb ri3_53 dX11_walk_89 (by decide) (fun c75 => ?_) (fun c75 => ?_)
          · skip
            refine x_aload_n hx hb hl 0 rfl dX11_walk_97 rfl ?_
            refine x_get (j := 5) (v := .ref (h0 + 274)) hx hb hown hT hE hW cls_X11 (Or.inl (by decide)) (so_268 h0 g _) (by decide) rfl wq1190 dX11_walk_98 ?_
            refine x_iload_n hx hb hl 1 rfl dX11_walk_101 rfl ?_
            refine x_aload_n hx hb hl 0 rfl dX11_walk_102 rfl ?_
            refine x_get (j := 34) (v := .int (xJ (s64 268 34))) hx hb hown hT hE hW cls_X11 (Or.inl (by decide)) (so_268 h0 g _) (by decide) rfl wq1219 dX11_walk_103 ?_
            refine x_rd hW (fun x76 ex76 rx76 => ?_)
            refine x_iast hx hb hE hW (by decide) (fun σ => sa_274 h0 g σ) (by omega) (by decide) rx76 dX11_walk_106 (fun H locs s77 es77 hW => ?_)
            have q78 : IMn s77 := by rw [es77]; exact IMn_274 q65 (by omega)
            have q79 : IMk s77 := by rw [es77]; exact IMk_o (by unfold suIMk; first | decide | omega) q66
            have q80 : IMo s77 := by rw [es77]; exact IMo_o (by unfold suIMo; first | decide | omega) q67
            have q81 : IR s77 := by rw [es77]; exact IR_o (by unfold suIR; first | decide | omega) q68
            have q82 : s77 268 8 = 0 := (show s77 268 8 = s64 268 8 from by rw [es77, xU_k _ _ _ (by first | decide | omega)]).trans q69
            have q83 : s77 268 58 = s0 268 58 := (show s77 268 58 = s64 268 58 from by rw [es77, xU_k _ _ _ (by first | decide | omega)]).trans q70
            have q84 : s77 268 10 = n := (show s77 268 10 = s64 268 10 from by rw [es77, xU_k _ _ _ (by first | decide | omega)]).trans q71
            have q85 : s77 268 17 = s0 268 17 := (show s77 268 17 = s64 268 17 from by rw [es77, xU_k _ _ _ (by first | decide | omega)]).trans q72
            have q86 : s77 268 48 = s0 268 48 := (show s77 268 48 = s64 268 48 from by rw [es77, xU_k _ _ _ (by first | decide | omega)]).trans q73
            have hF87 := hF74.put es77 (by omega)
            have Y106 : s77 268 34 = s_53 268 34 := by rw [es77, xU_k _ _ _ (by first | decide | omega)]; exact Y85.1
            have R106 : s77 269 = s0 269 ∧ s77 274 = xud (s0 274) j (s_53 268 34) ∧ s77 275 = s0 275 ∧ s77 289 = s_53 289 := ⟨by rw [es77, xU_k _ _ _ (by first | decide | omega)]; exact Q85.1, by rw [es77, xU_xud, Q85.2.1]; congr 1; omega, by rw [es77, xU_k _ _ _ (by first | decide | omega)]; exact Q85.2.2, by rw [es77, xU_k _ _ _ (by first | decide | omega)]; exact N85⟩
            have Y9 := (v53_0.resolve_left (fun q => absurd q.1 (by omega))).2
            have b9 := Y9.2.2.1.bb
            refine x_aload_n hx hb hl 0 rfl dX11_walk_107 rfl ?_
            refine x_get (j := 0) (v := .ref (h0 + 269)) hx hb hown hT hE hW cls_X11 (Or.inl (by decide)) (so_268 h0 g _) (by decide) rfl wq1185 dX11_walk_108 ?_
            refine x_iconst hx hb dX11_walk_111 ?_
            refine x_iload_n hx hb hl 1 rfl dX11_walk_112 rfl ?_
            refine x_iadd hx hb dX11_walk_113 ?_
            refine x_iconst hx hb dX11_walk_114 ?_
            refine x_iast hx hb hE hW (by decide) (fun σ => sa_269 h0 g σ) (by omega) (by decide) (by decide) dX11_walk_115 (fun H locs s88 es88 hW => ?_)
            have q89 : IMn s88 := by rw [es88]; exact IMn_N269 q78 (by omega)
            have q90 : IMk s88 := by rw [es88]; exact IMk_o (by unfold suIMk; first | decide | omega) q79
            have q91 : IMo s88 := by rw [es88]; exact IMo_o (by unfold suIMo; first | decide | omega) q80
            have q92 : IR s88 := by rw [es88]; exact IR_o (by unfold suIR; first | decide | omega) q81
            have q93 : s88 268 8 = 0 := (show s88 268 8 = s77 268 8 from by rw [es88, xU_k _ _ _ (by first | decide | omega)]).trans q82
            have q94 : s88 268 58 = s0 268 58 := (show s88 268 58 = s77 268 58 from by rw [es88, xU_k _ _ _ (by first | decide | omega)]).trans q83
            have q95 : s88 268 10 = n := (show s88 268 10 = s77 268 10 from by rw [es88, xU_k _ _ _ (by first | decide | omega)]).trans q84
            have q96 : s88 268 17 = s0 268 17 := (show s88 268 17 = s77 268 17 from by rw [es88, xU_k _ _ _ (by first | decide | omega)]).trans q85
            have q97 : s88 268 48 = s0 268 48 := (show s88 268 48 = s77 268 48 from by rw [es88, xU_k _ _ _ (by first | decide | omega)]).trans q86
            have hF98 := hF87.put es88 (by omega)
            have Y115 : s88 268 34 = s_53 268 34 := by rw [es88, xU_k _ _ _ (by first | decide | omega)]; exact Y106
            have R115 : s88 269 = xud (s0 269) (2 + j) 0 ∧ s88 274 = xud (s0 274) j (s_53 268 34) ∧ s88 275 = s0 275 ∧ s88 289 = s_53 289 := ⟨by rw [es88, xU_xud, R106.1], by rw [es88, xU_k _ _ _ (by first | decide | omega)]; exact R106.2.1, by rw [es88, xU_k _ _ _ (by first | decide | omega)]; exact R106.2.2.1, by rw [es88, xU_k _ _ _ (by first | decide | omega)]; exact R106.2.2.2⟩
            refine x_iconst hx hb dX11_walk_116 ?_
            refine lv_istore (lv' := [(4, .int (xJ 0)), (0, .ref (h0 + 268)), (1, .int (xJ j)), (3, .int (xJ i3_53))]) hx hb dX11_walk_117 hl (by decide) rfl (fun ls hl => ?_)
            have L119 : ∀ (fu : Nat) (i4_119 : Int) (s_119 : xS) (H : Heap) (locs : List Loc) (ls : Array Slot), (xR i4_119) → (xFr (fun k => k = 268 ∨ k = 269 ∨ k = 274 ∨ k = 275 ∨ k = 289 ∨ k = 290 ∨ k = 291 ∨ k = 292) s0 s_119) → (IMn s_119) → (IMk s_119) → (IMo s_119) → (IR s_119) → (s_119 268 8 = 0) → (s_119 268 58 = s0 268 58) → (s_119 268 10 = n) → (s_119 268 17 = s0 268 17) → (s_119 268 48 = s0 268 48) → (0 ≤ i4_119) → (s_119 268 34 = s_53 268 34) → (s_119 269 = xud (s0 269) (2 + j) 0 ∧ s_119 274 = xud (s0 274) j (s_53 268 34) ∧ s_119 289 = s_53 289) → (∀ i : Int, 0 ≤ i → i < i4_119 → s_119 275 (60 * j + i) = s_53 289 i) → (∀ i : Int, (i < 60 * j ∨ 60 * j + 60 ≤ i) → s_119 275 i = s0 275 i) → ((∀ i : Int, 0 ≤ i → i < 120 → 0 ≤ s0 275 i ∧ s0 275 i ≤ 8) → ∀ i : Int, 0 ≤ i → i < 120 → 0 ≤ s_119 275 i ∧ s_119 275 i ≤ 8) → (60 - i4_119).toNat < fu → xW D g h0 s H locs s_119 → lv_has ls 5 [(0, .ref (h0 + 268)), (1, .int (xJ j)), (4, .int (xJ i4_119))] → W p l e { frames := 3, cells := 0, slots := 0, locals := 70 } s m args below meth c H locs 0 0 Q (F0 m 119 ls []) := by
              intro fu
              induction fu with
              | zero => intro i4_119 s_119 H locs ls ri4_119 hF_119 q119_0 q119_1 q119_2 q119_3 q119_4 q119_5 q119_6 q119_7 q119_8 v119_0 v119_1 v119_2 v119_3 v119_4 v119_5 hm; exact absurd hm (Nat.not_lt_zero _)
              | succ fu ih119 =>
                intro i4_119 s_119 H locs ls ri4_119 hF_119 q119_0 q119_1 q119_2 q119_3 q119_4 q119_5 q119_6 q119_7 q119_8 v119_0 v119_1 v119_2 v119_3 v119_4 v119_5 hm hW hl
                have hm_119 := fun (_ : Unit) => hm
                clear hm
                refine x_iload hx hb hl 2 rfl dX11_walk_119 ?_
                refine x_aload_n hx hb hl 0 rfl dX11_walk_121 rfl ?_
                refine x_get (j := 34) (v := .int (xJ (s_119 268 34))) hx hb hown hT hE hW cls_X11 (Or.inl (by decide)) (so_268 h0 g _) (by decide) rfl wq1219 dX11_walk_122 ?_
                refine x_rd hW (fun x99 ex99 rx99 => ?_)
                refine x_icmp_ge (tgt := 153) hx hb ri4_119 rx99 dX11_walk_125 (by decide) (fun c100 => ?_) (fun c100 => ?_)
                · skip
                  refine x_aload_n hx hb hl 0 rfl dX11_walk_153 rfl ?_
                  refine x_get (j := 34) (v := .int (xJ (s_119 268 34))) hx hb hown hT hE hW cls_X11 (Or.inl (by decide)) (so_268 h0 g _) (by decide) rfl wq1219 dX11_walk_154 ?_
                  refine x_rd hW (fun x101 ex101 rx101 => ?_)
                  rw [eQ]
                  exact x_iret hx hb hr hlk hW rx101 ⟨hF_119, ⟨q119_0, q119_1, q119_2, q119_5, q119_7, q119_8, trivial⟩, by
                      rw [← eZ9]
                      have z := (v53_0.resolve_left (fun q => absurd q.1 (by omega))).2
                      have L9 := zst_l (σ := s_53) z.1.2.1
                      have z12 := z.1.2.1
                      have h9 : s_53 268 9 = n ∧ s_53 268 35 = 0 := by clear v53_0 H49 Z85; omega
                      clear v53_0 H49 Z85 v83_0
                      have y := z.2.2.1.fin0 (by omega) h9.1
                      exact Or.inr ⟨hN, by omega, Or.inr ⟨y.1, by omega, by rw [y.2.1]; exact v119_2.2.1, v119_2.1, by
                        rw [y.2.1]
                        intro i i1 i2
                        have q := y.2.2 i i1 i2
                        show s_119 275 (60 * j + i) = _ ∧ _
                        rw [v119_3 i i1 (by omega)]
                        exact q, v119_4, v119_5⟩⟩⟩ dX11_walk_157
                refine x_aload_n hx hb hl 0 rfl dX11_walk_128 rfl ?_
                refine x_get (j := 6) (v := .ref (h0 + 275)) hx hb hown hT hE hW cls_X11 (Or.inl (by decide)) (so_268 h0 g _) (by decide) rfl wq1191 dX11_walk_129 ?_
                refine x_bipush hx hb dX11_walk_132 (by decide) ?_
                refine x_iload_n hx hb hl 1 rfl dX11_walk_134 rfl ?_
                refine x_imul hx hb dX11_walk_135 ?_
                refine x_iload hx hb hl 2 rfl dX11_walk_136 ?_
                refine x_iadd hx hb dX11_walk_138 ?_
                refine x_aload_n hx hb hl 0 rfl dX11_walk_139 rfl ?_
                refine x_get (j := 30) (v := .ref (h0 + 289)) hx hb hown hT hE hW cls_X11 (Or.inl (by decide)) (so_268 h0 g _) (by decide) rfl wq1215 dX11_walk_140 ?_
                refine x_iload hx hb hl 2 rfl dX11_walk_143 ?_
                refine x_bald hx hb hE hW (Or.inl (by decide)) (sa_289 h0 g _) (by omega) (by decide) dX11_walk_145 ?_
                refine x_rd hW (fun x102 ex102 rx102 => ?_)
                have V145 : x102 = s_53 289 i4_119 := ex102.trans (congrFun v119_2.2.2 _)
                obtain ⟨y104, ey104, ry104, my104, by104⟩ := xnbm (v := x102) rx102
                refine x_bast (w := y104) hx hb hE hW (by decide) (fun σ => sa_275 h0 g σ) (by omega) (by decide) ey104 ry104 dX11_walk_146 (fun H locs s103 es103 hW => ?_)
                have q105 : IMn s103 := by rw [es103]; exact IMn_o (by unfold suIMn; first | decide | omega) q119_0
                have q106 : IMk s103 := by rw [es103]; exact IMk_o (by unfold suIMk; first | decide | omega) q119_1
                have q107 : IMo s103 := by rw [es103]; exact IMo_o (by unfold suIMo; first | decide | omega) q119_2
                have q108 : IR s103 := by rw [es103]; exact IR_o (by unfold suIR; first | decide | omega) q119_3
                have q109 : s103 268 8 = 0 := (show s103 268 8 = s_119 268 8 from by rw [es103, xU_k _ _ _ (by first | decide | omega)]).trans q119_4
                have q110 : s103 268 58 = s0 268 58 := (show s103 268 58 = s_119 268 58 from by rw [es103, xU_k _ _ _ (by first | decide | omega)]).trans q119_5
                have q111 : s103 268 10 = n := (show s103 268 10 = s_119 268 10 from by rw [es103, xU_k _ _ _ (by first | decide | omega)]).trans q119_6
                have q112 : s103 268 17 = s0 268 17 := (show s103 268 17 = s_119 268 17 from by rw [es103, xU_k _ _ _ (by first | decide | omega)]).trans q119_7
                have q113 : s103 268 48 = s0 268 48 := (show s103 268 48 = s_119 268 48 from by rw [es103, xU_k _ _ _ (by first | decide | omega)]).trans q119_8
                have hF114 := hF_119.put es103 (by omega)
                have E146 := es103
                have A146 : s103 275 = xud (s_119 275) (60 * j + i4_119) (s_53 289 i4_119) := by
                  have r := b9 i4_119 (by omega) (by omega)
                  rw [es103, xU_xud]
                  congr 1
                  omega
                refine x_iinc (lv' := [(4, .int (xJ (i4_119 + 1))), (0, .ref (h0 + 268)), (1, .int (xJ j))]) hx hb hl 2 rfl dX11_walk_147 (by decide) rfl (fun ls hl => ?_)
                refine lv_goto (tgt := 119) hx hb dX11_walk_150 (by decide) ?_
                exact ih119 (i4_119 + 1) s103 H locs ls (by omega) hF114 q105 q106 q107 q108 q109 q110 q111 q112 q113 (by omega) (by rw [es103, xU_k _ _ _ (by first | decide | omega)]; exact v119_1) (by rw [E146, xU_k _ _ _ (by first | decide | omega), xU_k _ _ _ (by first | decide | omega), xU_k _ _ _ (by first | decide | omega)]; exact v119_2) (fun i i1 i2 => by
                    rw [A146]
                    by_cases h : i = i4_119
                    · subst h; rw [xud_s]
                    · rw [xud_o _ _ (by omega)]; exact v119_3 i i1 (by omega)) (fun i h => by rw [A146, xud_o _ _ (by omega)]; exact v119_4 i h) (fun h i i1 i2 => by
                    rw [A146]
                    by_cases e : i = 60 * j + i4_119
                    · rw [e, xud_s]; exact b9 _ (by omega) (by omega)
                    · rw [xud_o _ _ e]; exact v119_5 h i i1 i2) (by have hm := hm_119 (); omega) hW (lv_sub hl [1, 2, 0] rfl)
            exact L119 ((60 - 0 : Int).toNat + 1) 0 s88 H locs ls (by decide) hF98 q89 q90 q91 q92 q93 q94 q95 q96 q97 (by omega) (Y115) (⟨R115.1, R115.2.1, R115.2.2.2⟩) (fun i i1 i2 => absurd i2 (by omega)) (fun i _ => by rw [R115.2.2.1]) (fun h i i1 i2 => by rw [R115.2.2.1]; exact h i i1 i2) (Nat.lt_succ_self _) hW (lv_sub hl [1, 2, 0] rfl)
          refine x_aload_n hx hb hl 0 rfl dX11_walk_92 rfl ?_
          refine x_get (j := 11) (v := .int (xJ (s64 268 11))) hx hb hown hT hE hW cls_X11 (Or.inl (by decide)) (so_268 h0 g _) (by decide) rfl wq1196 dX11_walk_93 ?_
          refine x_rd hW (fun x115 ex115 rx115 => ?_)
          rw [eQ]
          exact x_iret hx hb hr hlk hW rx115 ⟨hF74, ⟨q65, q66, q67, q70, q72, q73, trivial⟩, by
              rw [← eZ9]
              have z := v53_0.resolve_right (fun q => absurd q.1 (by omega))
              clear v53_0 H49 Z85 v83_0
              exact Or.inr ⟨hN, by omega, Or.inl ⟨z.2.1, by omega, Q85⟩⟩⟩ dX11_walk_96
        refine x_if_eq (tgt := 83) hx hb ri3_53 dX11_walk_54 (by decide) (fun c116 => ?_) (fun c116 => ?_)
        · skip
          exact J83 ls (by omega)  (lv_sub hl [0, 1, 2] rfl)
        refine x_aload_n hx hb hl 0 rfl dX11_walk_57 rfl ?_
        refine x_get (j := 9) (v := .int (xJ (s_53 268 9))) hx hb hown hT hE hW cls_X11 (Or.inl (by decide)) (so_268 h0 g _) (by decide) rfl wq1194 dX11_walk_58 ?_
        refine x_rd hW (fun x117 ex117 rx117 => ?_)
        have bx117 : 0 ≤ x117 ∧ x117 ≤ s_53 268 10 ∧ s_53 268 10 ≤ 240 := by rw [ex117]; exact q53_3
        refine x_aload_n hx hb hl 0 rfl dX11_walk_61 rfl ?_
        refine x_get (j := 10) (v := .int (xJ (s_53 268 10))) hx hb hown hT hE hW cls_X11 (Or.inl (by decide)) (so_268 h0 g _) (by decide) rfl wq1195 dX11_walk_62 ?_
        refine x_rd hW (fun x118 ex118 rx118 => ?_)
        have fx118 : x118 = n := ex118.trans q53_6
        refine x_icmp_lt (tgt := 75) hx hb rx117 rx118 dX11_walk_65 (by decide) (fun c119 => ?_) (fun c119 => ?_)
        · skip
          refine x_aload_n hx hb hl 0 rfl dX11_walk_75 rfl ?_
          refine x_goi (x_runV (As := []) hx hb hml hown hT hE hW hl.1 (Or.inl (by decide)) (so_268 h0 g _) rfl cf_X11_readsStep wq1446 wq112 wq1444 (c_X11_readsStepJ l D g T h0 s_53 hW.2.1 Z9 ((v53_0.resolve_left (fun q => by omega)).2.1) ((v53_0.resolve_left (fun q => by omega)).2.2.1) (by
              have L9 := zst_l (σ := s_53) (v53_0.resolve_left (fun q => by omega)).2.1.2.1
              have V9 := (v53_0.resolve_left (fun q => by omega)).2.2.2.1
              have E9 := (v53_0.resolve_left (fun q => by omega)).2.2.2.2
              rw [hF_53 276 (by first | decide | omega), show s_53 268 10 = n from by omega]
              by_cases e9 : s_53 268 35 = 0
              · exact V9.more0 (by omega) (by omega)
              · exact V9.moreN (by omega) (by omega) (by omega)) q53_0 q53_1 q53_2 q53_3) ⟨rfl, rfl, ⟨by decide, by decide⟩, ⟨by decide, by decide⟩⟩ rfl rfl (Nat.le_of_ble_eq_true rfl) dX11_walk_76) hW (fun x120 s121 H locs rx120 hp122 hW => ?_)
          obtain ⟨fs121, hp122⟩ := hp122
          have hF123 := hF_53.call fs121 (fun k h => by omega)
          have ghp122 := hp122.2
          have H76 := ghp122
          rw [hF_53 276 (by first | decide | omega), show s_53 268 10 = n from by omega] at H76
          have r76 : 0 ≤ s121 268 9 ∧ s121 268 9 ≤ s121 268 10 ∧ s121 268 10 ≤ 240 := hp122.1.2.2.2.1
          have Q76 : s121 269 = s0 269 ∧ s121 274 = s0 274 ∧ s121 275 = s0 275 := ⟨(fs121 269 (by first | decide | omega)).trans v53_1.1, (fs121 274 (by first | decide | omega)).trans v53_1.2.1, (fs121 275 (by first | decide | omega)).trans v53_1.2.2⟩
          refine lv_istore_n (lv' := [(3, .int (xJ x120)), (0, .ref (h0 + 268)), (1, .int (xJ j))]) hx hb dX11_walk_79 rfl hl (by decide) rfl (fun ls hl => ?_)
          refine lv_goto (tgt := 53) hx hb dX11_walk_80 (by decide) ?_
          exact ih53 x120 s121 H locs ls rx120 hF123 hp122.1.1 hp122.1.2.1 hp122.1.2.2.1 hp122.1.2.2.2.1 (hp122.1.2.2.2.2.1.trans q53_4) (hp122.1.2.2.2.2.2.1.trans q53_5) (hp122.1.2.2.2.2.2.2.1.trans q53_6) (hp122.1.2.2.2.2.2.2.2.1.trans q53_7) (hp122.1.2.2.2.2.2.2.2.2.1.trans q53_8) (H76.elim (fun q => Or.inl ⟨q.1, q.2.2.1, q.2.2.2⟩) (fun q => Or.inr ⟨q.1, q.2.1, q.2.2.1, q.2.2.2.2.1, q.2.2.2.2.2⟩)) (Q76) (by have hm := hm_53 (); omega) hW (lv_sub hl [1, 2, 0] rfl)
        refine x_aload_n hx hb hl 0 rfl dX11_walk_68 rfl ?_
        refine x_get (j := 35) (v := .int (xJ (s_53 268 35))) hx hb hown hT hE hW cls_X11 (Or.inl (by decide)) (so_268 h0 g _) (by decide) rfl wq1220 dX11_walk_69 ?_
        refine x_rd hW (fun x124 ex124 rx124 => ?_)
        refine x_if_le (tgt := 83) hx hb rx124 dX11_walk_72 (by decide) (fun c125 => ?_) (fun c125 => ?_)
        · skip
          exact J83 ls (by omega)  (lv_sub hl [0, 1, 2] rfl)
        refine x_aload_n hx hb hl 0 rfl dX11_walk_75 rfl ?_
        refine x_goi (x_runV (As := []) hx hb hml hown hT hE hW hl.1 (Or.inl (by decide)) (so_268 h0 g _) rfl cf_X11_readsStep wq1446 wq112 wq1444 (c_X11_readsStepJ l D g T h0 s_53 hW.2.1 Z9 ((v53_0.resolve_left (fun q => by omega)).2.1) ((v53_0.resolve_left (fun q => by omega)).2.2.1) (by
            have L9 := zst_l (σ := s_53) (v53_0.resolve_left (fun q => by omega)).2.1.2.1
            have V9 := (v53_0.resolve_left (fun q => by omega)).2.2.2.1
            have E9 := (v53_0.resolve_left (fun q => by omega)).2.2.2.2
            rw [hF_53 276 (by first | decide | omega), show s_53 268 10 = n from by omega]
            by_cases e9 : s_53 268 35 = 0
            · exact V9.more0 (by omega) (by omega)
            · exact V9.moreN (by omega) (by omega) (by omega)) q53_0 q53_1 q53_2 q53_3) ⟨rfl, rfl, ⟨by decide, by decide⟩, ⟨by decide, by decide⟩⟩ rfl rfl (Nat.le_of_ble_eq_true rfl) dX11_walk_76) hW (fun x126 s127 H locs rx126 hp128 hW => ?_)
        obtain ⟨fs127, hp128⟩ := hp128
        have hF129 := hF_53.call fs127 (fun k h => by omega)
        have ghp128 := hp128.2
        have H76 := ghp128
        rw [hF_53 276 (by first | decide | omega), show s_53 268 10 = n from by omega] at H76
        have r76 : 0 ≤ s127 268 9 ∧ s127 268 9 ≤ s127 268 10 ∧ s127 268 10 ≤ 240 := hp128.1.2.2.2.1
        have Q76 : s127 269 = s0 269 ∧ s127 274 = s0 274 ∧ s127 275 = s0 275 := ⟨(fs127 269 (by first | decide | omega)).trans v53_1.1, (fs127 274 (by first | decide | omega)).trans v53_1.2.1, (fs127 275 (by first | decide | omega)).trans v53_1.2.2⟩
        refine lv_istore_n (lv' := [(3, .int (xJ x126)), (0, .ref (h0 + 268)), (1, .int (xJ j))]) hx hb dX11_walk_79 rfl hl (by decide) rfl (fun ls hl => ?_)
        refine lv_goto (tgt := 53) hx hb dX11_walk_80 (by decide) ?_
        exact ih53 x126 s127 H locs ls rx126 hF129 hp128.1.1 hp128.1.2.1 hp128.1.2.2.1 hp128.1.2.2.2.1 (hp128.1.2.2.2.2.1.trans q53_4) (hp128.1.2.2.2.2.2.1.trans q53_5) (hp128.1.2.2.2.2.2.2.1.trans q53_6) (hp128.1.2.2.2.2.2.2.2.1.trans q53_7) (hp128.1.2.2.2.2.2.2.2.2.1.trans q53_8) (H76.elim (fun q => Or.inl ⟨q.1, q.2.2.1, q.2.2.2⟩) (fun q => Or.inr ⟨q.1, q.2.1, q.2.2.1, q.2.2.2.2.1, q.2.2.2.2.2⟩)) (Q76) (by have hm := hm_53 (); omega) hW (lv_sub hl [1, 2, 0] rfl)
    exact L53 ((2 * (241 - s61 268 9) + x60 : Int).toNat + 1) x60 s61 H locs ls rx60 hF63 hp62.1.1 hp62.1.2.1 hp62.1.2.2.1 hp62.1.2.2.2.1 (hp62.1.2.2.2.2.1.trans q53) (hp62.1.2.2.2.2.2.1.trans q50) (hp62.1.2.2.2.2.2.2.1.trans q55) (hp62.1.2.2.2.2.2.2.2.1.trans q51) (hp62.1.2.2.2.2.2.2.2.2.1.trans q52) (H49.elim (fun q => Or.inl ⟨q.1, q.2.2.1, q.2.2.2⟩) (fun q => Or.inr ⟨q.1, q.2.1, q.2.2.1, q.2.2.2.2.1, q.2.2.2.2.2⟩)) (Q49) (Nat.lt_succ_self _) hW (lv_sub hl [1, 2, 0] rfl)
  refine x_iconst hx hb dX11_walk_26 ?_
  rw [eQ]
  exact x_iret hx hb hr hlk hW (by decide) ⟨hF, ⟨p0, p1, p2, k268_58, k268_17, k268_48, trivial⟩, Or.inl ⟨by omega, by omega, by omega, rfl, rfl, rfl⟩⟩ dX11_walk_27


