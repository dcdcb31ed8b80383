set_option maxHeartbeats 4000000 in
set_option maxRecDepth 100000 in
theorem c_X11_judgeJ (l : Launch) (D : va_G) (g : xG) (T : Nat × Nat × Nat) (h0 : Nat) (s0 : xS) (hσ : xRR s0) (j : Int) (rj : xR j) (x : Int) (rx : xR x) (y : Int) (ry : xR y) (hB : 0 ≤ s0 269 34 ∧ s0 269 34 ≤ 3) (p0 : IMn s0) (p1 : IMk s0) (p2 : IMo s0) : Met l yX11_judge (xws yX11_judge cX11_judge 4 (some .boolean)) { frames := 2, cells := 0, slots := 0, locals := 43 } (xP [.ref (h0 + 268), .int (xJ j), .int (xJ x), .int (xJ y)] D g T h0 s0) (xQi D g h0 (fun r τ => xFr (fun k => k = 269) s0 τ ∧ (((IMn τ) ∧ (IMk τ) ∧ (IMo τ) ∧ (τ 269 37 = s0 269 37) ∧ True) ∧ ((r = 1 ∧ (0 ≤ j ∧ j < 2 ∧ (0 ≤ x ∧ x < 10 ∧ 0 ≤ y ∧ y < 10 ∧ (s0 272 (10 * y + x) = 0 ∨ s0 272 (10 * y + x) = 2)) ∧ zrj (s0 269) (1 - j) ≠ 10 * y + x) ∧ τ 269 = xud (xud (s0 269) 34 (zor (s0 269 34) j)) j (10 * y + x)) ∨ (r = 0 ∧ ¬ (0 ≤ j ∧ j < 2 ∧ (0 ≤ x ∧ x < 10 ∧ 0 ≤ y ∧ y < 10 ∧ (s0 272 (10 * y + x) = 0 ∨ s0 272 (10 * y + x) = 2)) ∧ zrj (s0 269) (1 - j) ≠ 10 * y + x) ∧ τ 269 = s0 269))))) 0 0 (xA h0) := by
  refine x_met hσ (by decide) (Nat.le_of_ble_eq_true rfl) ?_
  intro p e s m args below meth c hx hb hr hml hown hT hlk hnm hE hW ls hl
  have hl : lv_has ls 4 [(0, .ref (h0 + 268)), (1, .int (xJ j)), (2, .int (xJ x)), (3, .int (xJ y))] := hl
  obtain ⟨Q, eQ⟩ : ∃ Q, Q = MQ below (xQi D g h0 (fun r τ => xFr (fun k => k = 269) s0 τ ∧ (((IMn τ) ∧ (IMk τ) ∧ (IMo τ) ∧ (τ 269 37 = s0 269 37) ∧ True) ∧ ((r = 1 ∧ (0 ≤ j ∧ j < 2 ∧ (0 ≤ x ∧ x < 10 ∧ 0 ≤ y ∧ y < 10 ∧ (s0 272 (10 * y + x) = 0 ∨ s0 272 (10 * y + x) = 2)) ∧ zrj (s0 269) (1 - j) ≠ 10 * y + x) ∧ τ 269 = xud (xud (s0 269) 34 (zor (s0 269 34) j)) j (10 * y + x)) ∨ (r = 0 ∧ ¬ (0 ≤ j ∧ j < 2 ∧ (0 ≤ x ∧ x < 10 ∧ 0 ≤ y ∧ y < 10 ∧ (s0 272 (10 * y + x) = 0 ∨ s0 272 (10 * y + x) = 2)) ∧ zrj (s0 269) (1 - j) ≠ 10 * y + x) ∧ τ 269 = s0 269))))) args s 0 0 (xA h0) := ⟨_, rfl⟩
  rw [← eQ]
  generalize hHe : ([] : List Loc) = locs at hW ⊢
  obtain ⟨H, eH⟩ : ∃ H, H = s.heap := ⟨_, rfl⟩
  rw [← eH] at hW ⊢
  have hF : xFr (fun k => k = 269) s0 s0 := xFr.rf
  have k268_8 : s0 268 8 = s0 268 8 := rfl
  have k268_58 : s0 268 58 = s0 268 58 := rfl
  have k269_37 : s0 269 37 = s0 269 37 := rfl
  refine x_iload_n hx hb hl 1 rfl dX11_judge_0 rfl ?_
  refine x_iconst hx hb dX11_judge_1 ?_
  refine x_goi (x_runS (As := [.int (xJ j), .int (xJ 2)]) hx hb hml hown hT hE hW hl.1 cf_X11_isFive wq1412 wq1411 (c_X11_isFive l D g T h0 s0 hW.2.1 j rj 2 (by decide)) ⟨rfl, rfl, ⟨by decide, by decide⟩, ⟨by decide, by decide⟩⟩ rfl rfl (Nat.le_of_ble_eq_true rfl) dX11_judge_2) hW (fun x1 s2 H locs rx1 hp3 hW => ?_)
  obtain ⟨es2, hp3⟩ := hp3
  subst es2
  have ghp3 := hp3
  refine x_if_eq (tgt := 29) hx hb rx1 dX11_judge_5 (by decide) (fun c4 => ?_) (fun c4 => ?_)
  · skip
    refine x_iconst hx hb dX11_judge_29 ?_
    rw [eQ]
    exact x_zret hx hb hr hlk hW (by omega) ⟨hF, ⟨p0, p1, p2, k269_37, trivial⟩, Or.inr ⟨rfl, by omega, rfl⟩⟩ dX11_judge_30
  refine x_iload_n hx hb hl 2 rfl dX11_judge_8 rfl ?_
  refine x_iload_n hx hb hl 3 rfl dX11_judge_9 rfl ?_
  refine x_goi (x_runS (As := [.int (xJ x), .int (xJ y)]) hx hb hml hown hT hE hW hl.1 cf_X11_isOn wq1430 wq1429 (c_X11_isOn l D g T h0 s0 hW.2.1 x rx y ry) ⟨rfl, rfl, ⟨by decide, by decide⟩, ⟨by decide, by decide⟩⟩ rfl rfl (Nat.le_of_ble_eq_true rfl) dX11_judge_10) hW (fun x5 s6 H locs rx5 hp7 hW => ?_)
  obtain ⟨es6, hp7⟩ := hp7
  subst es6
  have ghp7 := hp7
  refine x_if_eq (tgt := 29) hx hb rx5 dX11_judge_13 (by decide) (fun c8 => ?_) (fun c8 => ?_)
  · skip
    refine x_iconst hx hb dX11_judge_29 ?_
    rw [eQ]
    exact x_zret hx hb hr hlk hW (by omega) ⟨hF, ⟨p0, p1, p2, k269_37, trivial⟩, Or.inr ⟨rfl, by omega, rfl⟩⟩ dX11_judge_30
  refine x_aload_n hx hb hl 0 rfl dX11_judge_16 rfl ?_
  refine x_bipush hx hb dX11_judge_17 (by decide) ?_
  refine x_iload_n hx hb hl 3 rfl dX11_judge_19 rfl ?_
  refine x_imul hx hb dX11_judge_20 ?_
  refine x_iload_n hx hb hl 2 rfl dX11_judge_21 rfl ?_
  refine x_iadd hx hb dX11_judge_22 ?_
  refine x_goi (x_runV (As := [.int (xJ ((10 * y) + x))]) hx hb hml hown hT hE hW hl.1 (Or.inl (by decide)) (so_268 h0 g _) rfl cf_X11_isGround wq1419 wq110 wq1417 (c_X11_isGroundM l D g T h0 s0 hW.2.1 ((10 * y) + x) (by omega) (by omega) p0 p1 p2) ⟨rfl, rfl, ⟨by decide, by decide⟩, ⟨by decide, by decide⟩⟩ rfl rfl (Nat.le_of_ble_eq_true rfl) dX11_judge_23) hW (fun x9 s10 H locs rx9 hp11 hW => ?_)
  obtain ⟨es10, hp11⟩ := hp11
  subst es10
  have ghp11 := hp11
  have H23 := ghp11
  refine x_if_ne (tgt := 31) hx hb rx9 dX11_judge_26 (by decide) (fun c12 => ?_) (fun c12 => ?_)
  · skip
    refine x_aload_n hx hb hl 0 rfl dX11_judge_31 rfl ?_
    refine x_iconst hx hb dX11_judge_32 ?_
    refine x_iload_n hx hb hl 1 rfl dX11_judge_33 rfl ?_
    refine x_isub hx hb dX11_judge_34 ?_
    refine x_goi (x_runV (As := [.int (xJ (1 - j))]) hx hb hml hown hT hE hW hl.1 (Or.inl (by decide)) (so_268 h0 g _) rfl cf_X11_isJudge wq1409 wq109 wq1407 (c_X11_isJudgeJ l D g T h0 s0 hW.2.1 (1 - j) (by omega) p0 p1 p2) ⟨rfl, rfl, ⟨by decide, by decide⟩, ⟨by decide, by decide⟩⟩ rfl rfl (Nat.le_of_ble_eq_true rfl) dX11_judge_35) hW (fun x13 s14 H locs rx13 hp15 hW => ?_)
    obtain ⟨es14, hp15⟩ := hp15
    subst es14
    have ghp15 := hp15
    have H35 := ghp15
    refine x_if_eq (tgt := 60) hx hb rx13 dX11_judge_38 (by decide) (fun c16 => ?_) (fun c16 => ?_)
    · skip
      refine x_aload_n hx hb hl 0 rfl dX11_judge_60 rfl ?_
      refine x_get (j := 0) (v := .ref (h0 + 269)) hx hb hown hT hE hW cls_X11 (Or.inl (by decide)) (so_268 h0 g _) (by decide) rfl wq1185 dX11_judge_61 ?_
      refine x_bipush hx hb dX11_judge_64 (by decide) ?_
      refine x_aload_n hx hb hl 0 rfl dX11_judge_66 rfl ?_
      refine x_get (j := 0) (v := .ref (h0 + 269)) hx hb hown hT hE hW cls_X11 (Or.inl (by decide)) (so_268 h0 g _) (by decide) rfl wq1185 dX11_judge_67 ?_
      refine x_bipush hx hb dX11_judge_70 (by decide) ?_
      refine x_iald hx hb hE hW (Or.inl (by decide)) (sa_269 h0 g _) ⟨by decide, by decide⟩ (by decide) dX11_judge_72 ?_
      refine x_rd hW (fun x17 ex17 rx17 => ?_)
      have V72 : x17 = s0 269 34 := ex17
      refine x_iconst hx hb dX11_judge_73 ?_
      refine x_iload_n hx hb hl 1 rfl dX11_judge_74 rfl ?_
      refine lv_ishl hx hb dX11_judge_75 ?_
      refine x_anyE (fun x18 ex18 rx18 => ?_)
      have V75 := ex18
      refine lv_ior hx hb dX11_judge_76 ?_
      refine x_anyE (fun x19 ex19 rx19 => ?_)
      have V76 : x19 = zor (s0 269 34) j := by
        rw [← V72]
        exact zor_j (by omega) (by omega) V75 rx19 ex19
      refine x_iast hx hb hE hW (by decide) (fun σ => sa_269 h0 g σ) ⟨by decide, by decide⟩ (by decide) rx19 dX11_judge_77 (fun H locs s20 es20 hW => ?_)
      have q21 : IMn s20 := by rw [es20]; exact IMn_N269 p0 (by omega)
      have q22 : IMk s20 := by rw [es20]; exact IMk_o (by unfold suIMk; first | decide | omega) p1
      have q23 : IMo s20 := by rw [es20]; exact IMo_o (by unfold suIMo; first | decide | omega) p2
      have q24 : s20 268 8 = s0 268 8 := (show s20 268 8 = s0 268 8 from by rw [es20, xU_k _ _ _ (by first | decide | omega)]).trans k268_8
      have q25 : s20 268 58 = s0 268 58 := (show s20 268 58 = s0 268 58 from by rw [es20, xU_k _ _ _ (by first | decide | omega)]).trans k268_58
      have q26 : s20 269 37 = s0 269 37 := (show s20 269 37 = s0 269 37 from by rw [es20, xU_j _ _ (by decide)]).trans k269_37
      have hF27 := hF.put es20 (by omega)
      have E77 := es20
      refine x_aload_n hx hb hl 0 rfl dX11_judge_78 rfl ?_
      refine x_get (j := 0) (v := .ref (h0 + 269)) hx hb hown hT hE hW cls_X11 (Or.inl (by decide)) (so_268 h0 g _) (by decide) rfl wq1185 dX11_judge_79 ?_
      refine x_iconst hx hb dX11_judge_82 ?_
      refine x_iload_n hx hb hl 1 rfl dX11_judge_83 rfl ?_
      refine x_iadd hx hb dX11_judge_84 ?_
      refine x_bipush hx hb dX11_judge_85 (by decide) ?_
      refine x_iload_n hx hb hl 3 rfl dX11_judge_87 rfl ?_
      refine x_imul hx hb dX11_judge_88 ?_
      refine x_iload_n hx hb hl 2 rfl dX11_judge_89 rfl ?_
      refine x_iadd hx hb dX11_judge_90 ?_
      refine x_iast hx hb hE hW (by decide) (fun σ => sa_269 h0 g σ) (by omega) (by decide) (by omega) dX11_judge_91 (fun H locs s28 es28 hW => ?_)
      have q29 : IMn s28 := by rw [es28]; exact IMn_N269 q21 (by omega)
      have q30 : IMk s28 := by rw [es28]; exact IMk_o (by unfold suIMk; first | decide | omega) q22
      have q31 : IMo s28 := by rw [es28]; exact IMo_o (by unfold suIMo; first | decide | omega) q23
      have q32 : s28 268 8 = s0 268 8 := (show s28 268 8 = s20 268 8 from by rw [es28, xU_k _ _ _ (by first | decide | omega)]).trans q24
      have q33 : s28 268 58 = s0 268 58 := (show s28 268 58 = s20 268 58 from by rw [es28, xU_k _ _ _ (by first | decide | omega)]).trans q25
      have q34 : s28 269 37 = s0 269 37 := (show s28 269 37 = s20 269 37 from by rw [es28, xU_j _ _ (by omega)]).trans q26
      have hF35 := hF27.put es28 (by omega)
      have E91 := es28
      refine x_iconst hx hb dX11_judge_92 ?_
      rw [eQ]
      exact x_zret hx hb hr hlk hW (by omega) ⟨hF35, ⟨q29, q30, q31, q34, trivial⟩, (by
          have z : zrj (s0 269) (1 - j) ≠ 10 * y + x := by
            first
              | (rw [zrj_n (by omega)]; omega)
              | (rw [zrj_p (by omega)]; omega)
          exact Or.inl ⟨rfl, by omega, by rw [E91, xU_xud, E77, xU_xud, V76, show (0 + j : Int) = j from by omega]⟩)⟩ dX11_judge_93
    refine x_aload_n hx hb hl 0 rfl dX11_judge_41 rfl ?_
    refine x_get (j := 0) (v := .ref (h0 + 269)) hx hb hown hT hE hW cls_X11 (Or.inl (by decide)) (so_268 h0 g _) (by decide) rfl wq1185 dX11_judge_42 ?_
    refine x_iconst hx hb dX11_judge_45 ?_
    refine x_iload_n hx hb hl 1 rfl dX11_judge_46 rfl ?_
    refine x_isub hx hb dX11_judge_47 ?_
    refine x_iald hx hb hE hW (Or.inl (by decide)) (sa_269 h0 g _) (by omega) (by decide) dX11_judge_48 ?_
    refine x_rd hW (fun x36 ex36 rx36 => ?_)
    have bx36 : 0 ≤ x36 ∧ x36 ≤ 99 := by rw [ex36]; exact (IMn.n1 p0).1 _ (by omega) (by omega)
    have V48 : x36 = s0 269 (1 - j) := ex36
    refine x_bipush hx hb dX11_judge_49 (by decide) ?_
    refine x_iload_n hx hb hl 3 rfl dX11_judge_51 rfl ?_
    refine x_imul hx hb dX11_judge_52 ?_
    refine x_iload_n hx hb hl 2 rfl dX11_judge_53 rfl ?_
    refine x_iadd hx hb dX11_judge_54 ?_
    refine x_icmp_ne (tgt := 60) hx hb rx36 (by omega) dX11_judge_55 (by decide) (fun c37 => ?_) (fun c37 => ?_)
    · skip
      refine x_aload_n hx hb hl 0 rfl dX11_judge_60 rfl ?_
      refine x_get (j := 0) (v := .ref (h0 + 269)) hx hb hown hT hE hW cls_X11 (Or.inl (by decide)) (so_268 h0 g _) (by decide) rfl wq1185 dX11_judge_61 ?_
      refine x_bipush hx hb dX11_judge_64 (by decide) ?_
      refine x_aload_n hx hb hl 0 rfl dX11_judge_66 rfl ?_
      refine x_get (j := 0) (v := .ref (h0 + 269)) hx hb hown hT hE hW cls_X11 (Or.inl (by decide)) (so_268 h0 g _) (by decide) rfl wq1185 dX11_judge_67 ?_
      refine x_bipush hx hb dX11_judge_70 (by decide) ?_
      refine x_iald hx hb hE hW (Or.inl (by decide)) (sa_269 h0 g _) ⟨by decide, by decide⟩ (by decide) dX11_judge_72 ?_
      refine x_rd hW (fun x38 ex38 rx38 => ?_)
      have V72 : x38 = s0 269 34 := ex38
      refine x_iconst hx hb dX11_judge_73 ?_
      refine x_iload_n hx hb hl 1 rfl dX11_judge_74 rfl ?_
      refine lv_ishl hx hb dX11_judge_75 ?_
      refine x_anyE (fun x39 ex39 rx39 => ?_)
      have V75 := ex39
      refine lv_ior hx hb dX11_judge_76 ?_
      refine x_anyE (fun x40 ex40 rx40 => ?_)
      have V76 : x40 = zor (s0 269 34) j := by
        rw [← V72]
        exact zor_j (by omega) (by omega) V75 rx40 ex40
      refine x_iast hx hb hE hW (by decide) (fun σ => sa_269 h0 g σ) ⟨by decide, by decide⟩ (by decide) rx40 dX11_judge_77 (fun H locs s41 es41 hW => ?_)
      have q42 : IMn s41 := by rw [es41]; exact IMn_N269 p0 (by omega)
      have q43 : IMk s41 := by rw [es41]; exact IMk_o (by unfold suIMk; first | decide | omega) p1
      have q44 : IMo s41 := by rw [es41]; exact IMo_o (by unfold suIMo; first | decide | omega) p2
      have q45 : s41 268 8 = s0 268 8 := (show s41 268 8 = s0 268 8 from by rw [es41, xU_k _ _ _ (by first | decide | omega)]).trans k268_8
      have q46 : s41 268 58 = s0 268 58 := (show s41 268 58 = s0 268 58 from by rw [es41, xU_k _ _ _ (by first | decide | omega)]).trans k268_58
      have q47 : s41 269 37 = s0 269 37 := (show s41 269 37 = s0 269 37 from by rw [es41, xU_j _ _ (by decide)]).trans k269_37
      have hF48 := hF.put es41 (by omega)
      have E77 := es41
      refine x_aload_n hx hb hl 0 rfl dX11_judge_78 rfl ?_
      refine x_get (j := 0) (v := .ref (h0 + 269)) hx hb hown hT hE hW cls_X11 (Or.inl (by decide)) (so_268 h0 g _) (by decide) rfl wq1185 dX11_judge_79 ?_
      refine x_iconst hx hb dX11_judge_82 ?_
      refine x_iload_n hx hb hl 1 rfl dX11_judge_83 rfl ?_
      refine x_iadd hx hb dX11_judge_84 ?_
      refine x_bipush hx hb dX11_judge_85 (by decide) ?_
      refine x_iload_n hx hb hl 3 rfl dX11_judge_87 rfl ?_
      refine x_imul hx hb dX11_judge_88 ?_
      refine x_iload_n hx hb hl 2 rfl dX11_judge_89 rfl ?_
      refine x_iadd hx hb dX11_judge_90 ?_
      refine x_iast hx hb hE hW (by decide) (fun σ => sa_269 h0 g σ) (by omega) (by decide) (by omega) dX11_judge_91 (fun H locs s49 es49 hW => ?_)
      have q50 : IMn s49 := by rw [es49]; exact IMn_N269 q42 (by omega)
      have q51 : IMk s49 := by rw [es49]; exact IMk_o (by unfold suIMk; first | decide | omega) q43
      have q52 : IMo s49 := by rw [es49]; exact IMo_o (by unfold suIMo; first | decide | omega) q44
      have q53 : s49 268 8 = s0 268 8 := (show s49 268 8 = s41 268 8 from by rw [es49, xU_k _ _ _ (by first | decide | omega)]).trans q45
      have q54 : s49 268 58 = s0 268 58 := (show s49 268 58 = s41 268 58 from by rw [es49, xU_k _ _ _ (by first | decide | omega)]).trans q46
      have q55 : s49 269 37 = s0 269 37 := (show s49 269 37 = s41 269 37 from by rw [es49, xU_j _ _ (by omega)]).trans q47
      have hF56 := hF48.put es49 (by omega)
      have E91 := es49
      refine x_iconst hx hb dX11_judge_92 ?_
      rw [eQ]
      exact x_zret hx hb hr hlk hW (by omega) ⟨hF56, ⟨q50, q51, q52, q55, trivial⟩, (by
          have z : zrj (s0 269) (1 - j) ≠ 10 * y + x := by
            first
              | (rw [zrj_n (by omega)]; omega)
              | (rw [zrj_p (by omega)]; omega)
          exact Or.inl ⟨rfl, by omega, by rw [E91, xU_xud, E77, xU_xud, V76, show (0 + j : Int) = j from by omega]⟩)⟩ dX11_judge_93
    refine x_iconst hx hb dX11_judge_58 ?_
    rw [eQ]
    exact x_zret hx hb hr hlk hW (by omega) ⟨hF, ⟨p0, p1, p2, k269_37, trivial⟩, Or.inr ⟨rfl, (by have z := zrj_p (N := s0 269) (j := 1 - j) (by omega); omega), rfl⟩⟩ dX11_judge_59
  refine x_iconst hx hb dX11_judge_29 ?_
  rw [eQ]
  exact x_zret hx hb hr hlk hW (by omega) ⟨hF, ⟨p0, p1, p2, k269_37, trivial⟩, Or.inr ⟨rfl, by omega, rfl⟩⟩ dX11_judge_30
set_option maxHeartbeats 4000000 in
set_option maxRecDepth 100000 in
theorem c_X11_copiesWalksJK (l : Launch) (D : va_G) (g : xG) (T : Nat × Nat × Nat) (h0 : Nat) (s0 : xS) (hσ : xRR s0) (hb8 : ∀ q : Int, 0 ≤ q → q < 120 → 0 ≤ s0 275 q ∧ s0 275 q ≤ 8) (p0 : IMn s0) (p1 : IMk s0) (p2 : IMo s0) : Met l yX11_copiesWalks (xws yX11_copiesWalks cX11_copiesWalks 5 none) { frames := 0, cells := 0, slots := 0, locals := 0 } (xP [.ref (h0 + 274), .ref (h0 + 275), .ref (h0 + 308), .ref (h0 + 309)] D g T h0 s0) (xQv D g h0 (fun τ => xFr (fun k => k = 308 ∨ k = 309) s0 τ ∧ (((IMn τ) ∧ (IMk τ) ∧ (IMo τ) ∧ True) ∧ ((∀ q : Int, 0 ≤ q → q < 2 → τ 308 q = s0 274 q) ∧ ∀ q : Int, 0 ≤ q → q < 120 → τ 309 q = s0 275 q)))) 0 0 (xA h0) := by
  refine x_met hσ (by decide) (Nat.le_of_ble_eq_true rfl) ?_
  intro p e s m args below meth c hx hb hr hml hown hT hlk hnm hE hW ls hl
  have hl : lv_has ls 5 [(0, .ref (h0 + 274)), (1, .ref (h0 + 275)), (2, .ref (h0 + 308)), (3, .ref (h0 + 309))] := hl
  obtain ⟨Q, eQ⟩ : ∃ Q, Q = MQ below (xQv D g h0 (fun τ => xFr (fun k => k = 308 ∨ k = 309) s0 τ ∧ (((IMn τ) ∧ (IMk τ) ∧ (IMo τ) ∧ True) ∧ ((∀ q : Int, 0 ≤ q → q < 2 → τ 308 q = s0 274 q) ∧ ∀ q : Int, 0 ≤ q → q < 120 → τ 309 q = s0 275 q)))) args s 0 0 (xA h0) := ⟨_, rfl⟩
  rw [← eQ]
  generalize hHe : ([] : List Loc) = locs at hW ⊢
  obtain ⟨H, eH⟩ : ∃ H, H = s.heap := ⟨_, rfl⟩
  rw [← eH] at hW ⊢
  have hF : xFr (fun k => k = 308 ∨ k = 309) s0 s0 := xFr.rf
  have k268_8 : s0 268 8 = s0 268 8 := rfl
  have k268_58 : s0 268 58 = s0 268 58 := rfl
  refine x_iconst hx hb dX11_copiesWalks_0 ?_
  refine lv_istore (lv' := [(4, .int (xJ 0)), (0, .ref (h0 + 274)), (1, .ref (h0 + 275)), (2, .ref (h0 + 308)), (3, .ref (h0 + 309))]) hx hb dX11_copiesWalks_1 hl (by decide) rfl (fun ls hl => ?_)
  have L3 : ∀ (fu : Nat) (i4_3 : Int) (s_3 : xS) (H : Heap) (locs : List Loc) (ls : Array Slot), (xR i4_3) → (xFr (fun k => k = 308 ∨ k = 309) s0 s_3) → (IMn s_3) → (IMk s_3) → (IMo s_3) → (s_3 268 8 = s0 268 8) → (s_3 268 58 = s0 268 58) → (0 ≤ i4_3) → (i4_3 ≤ 2) → (∀ q : Int, 0 ≤ q → q < i4_3 → s_3 308 q = s0 274 q) → (2 + 1 - i4_3).toNat < fu → xW D g h0 s H locs s_3 → lv_has ls 5 [(0, .ref (h0 + 274)), (1, .ref (h0 + 275)), (2, .ref (h0 + 308)), (3, .ref (h0 + 309)), (4, .int (xJ i4_3))] → W p l e { frames := 0, cells := 0, slots := 0, locals := 0 } s m args below meth c H locs 0 0 Q (F0 m 3 ls []) := by
    intro fu
    induction fu with
    | zero => intro i4_3 s_3 H locs ls ri4_3 hF_3 q3_0 q3_1 q3_2 q3_3 q3_4 v3_0 v3_1 v3_2 hm; exact absurd hm (Nat.not_lt_zero _)
    | succ fu ih3 =>
      intro i4_3 s_3 H locs ls ri4_3 hF_3 q3_0 q3_1 q3_2 q3_3 q3_4 v3_0 v3_1 v3_2 hm hW hl
      have hm_3 := fun (_ : Unit) => hm
      clear hm
      refine x_iload hx hb hl 4 rfl dX11_copiesWalks_3 ?_
      refine x_iconst hx hb dX11_copiesWalks_5 ?_
      refine x_icmp_ge (tgt := 23) hx hb ri4_3 (by decide) dX11_copiesWalks_6 (by decide) (fun c1 => ?_) (fun c1 => ?_)
      · skip
        refine x_iconst hx hb dX11_copiesWalks_23 ?_
        refine lv_istore (lv' := [(4, .int (xJ 0)), (0, .ref (h0 + 274)), (1, .ref (h0 + 275)), (2, .ref (h0 + 308)), (3, .ref (h0 + 309))]) hx hb dX11_copiesWalks_24 hl (by decide) rfl (fun ls hl => ?_)
        have L26 : ∀ (fu : Nat) (i4_26 : Int) (s_26 : xS) (H : Heap) (locs : List Loc) (ls : Array Slot), (xR i4_26) → (xFr (fun k => k = 308 ∨ k = 309) s0 s_26) → (IMn s_26) → (IMk s_26) → (IMo s_26) → (s_26 268 8 = s0 268 8) → (s_26 268 58 = s0 268 58) → (0 ≤ i4_26) → (i4_26 ≤ 120) → (∀ q : Int, 0 ≤ q → q < 2 → s_26 308 q = s0 274 q) → (∀ q : Int, 0 ≤ q → q < i4_26 → s_26 309 q = s0 275 q) → (120 + 1 - i4_26).toNat < fu → xW D g h0 s H locs s_26 → lv_has ls 5 [(1, .ref (h0 + 275)), (3, .ref (h0 + 309)), (4, .int (xJ i4_26))] → W p l e { frames := 0, cells := 0, slots := 0, locals := 0 } s m args below meth c H locs 0 0 Q (F0 m 26 ls []) := by
          intro fu
          induction fu with
          | zero => intro i4_26 s_26 H locs ls ri4_26 hF_26 q26_0 q26_1 q26_2 q26_3 q26_4 v26_0 v26_1 v26_2 v26_3 hm; exact absurd hm (Nat.not_lt_zero _)
          | succ fu ih26 =>
            intro i4_26 s_26 H locs ls ri4_26 hF_26 q26_0 q26_1 q26_2 q26_3 q26_4 v26_0 v26_1 v26_2 v26_3 hm hW hl
            have hm_26 := fun (_ : Unit) => hm
            clear hm
            refine x_iload hx hb hl 2 rfl dX11_copiesWalks_26 ?_
            refine x_bipush hx hb dX11_copiesWalks_28 (by decide) ?_
            refine x_icmp_ge (tgt := 47) hx hb ri4_26 (by decide) dX11_copiesWalks_30 (by decide) (fun c2 => ?_) (fun c2 => ?_)
            · skip
              rw [eQ]
              exact x_vret hx hb hr hlk hW ⟨hF_26, ⟨q26_0, q26_1, q26_2, trivial⟩, ⟨v26_2, fun q q1 q2 => v26_3 q q1 (by omega)⟩⟩ dX11_copiesWalks_47
            refine x_aload_n hx hb hl 1 rfl dX11_copiesWalks_33 rfl ?_
            refine x_iload hx hb hl 2 rfl dX11_copiesWalks_34 ?_
            refine x_aload_n hx hb hl 0 rfl dX11_copiesWalks_36 rfl ?_
            refine x_iload hx hb hl 2 rfl dX11_copiesWalks_37 ?_
            refine x_bald hx hb hE hW (Or.inl (by decide)) (sa_275 h0 g _) (by omega) (by decide) dX11_copiesWalks_39 ?_
            refine x_rd hW (fun x3 ex3 rx3 => ?_)
            have V39 : x3 = s0 275 i4_26 := by rw [ex3, hF_26 275 (by first | decide | omega)]
            obtain ⟨y5, ey5, ry5, my5, by5⟩ := xnbm (v := x3) rx3
            refine x_bast (w := y5) hx hb hE hW (by decide) (fun σ => sa_309 h0 g σ) (by omega) (by decide) ey5 ry5 dX11_copiesWalks_40 (fun H locs s4 es4 hW => ?_)
            have q6 : IMn s4 := by rw [es4]; exact IMn_o (by unfold suIMn; first | decide | omega) q26_0
            have q7 : IMk s4 := by rw [es4]; exact IMk_o (by unfold suIMk; first | decide | omega) q26_1
            have q8 : IMo s4 := by rw [es4]; exact IMo_o (by unfold suIMo; first | decide | omega) q26_2
            have q9 : s4 268 8 = s0 268 8 := (show s4 268 8 = s_26 268 8 from by rw [es4, xU_k _ _ _ (by first | decide | omega)]).trans q26_3
            have q10 : s4 268 58 = s0 268 58 := (show s4 268 58 = s_26 268 58 from by rw [es4, xU_k _ _ _ (by first | decide | omega)]).trans q26_4
            have hF11 := hF_26.put es4 (by omega)
            have E40 := es4
            refine x_iinc (lv' := [(4, .int (xJ (i4_26 + 1))), (1, .ref (h0 + 275)), (3, .ref (h0 + 309))]) hx hb hl 2 rfl dX11_copiesWalks_41 (by decide) rfl (fun ls hl => ?_)
            refine lv_goto (tgt := 26) hx hb dX11_copiesWalks_44 (by decide) ?_
            exact ih26 (i4_26 + 1) s4 H locs ls (by omega) hF11 q6 q7 q8 q9 q10 (by omega) (by omega) (by rw [E40, xU_k _ _ _ (by first | decide | omega)]; exact v26_2) (fun q q1 q2 => (Classical.em (q < i4_26)).elim (fun h => by rw [E40, xU_j _ _ (by omega)]; exact v26_3 q q1 h) (fun h => by rw [show q = i4_26 from by omega, E40, xU_s]; have y := hb8 i4_26 (by omega) (by omega); omega)) (by have hm := hm_26 (); omega) hW (lv_sub hl [1, 2, 0] rfl)
        exact L26 ((120 + 1 - 0 : Int).toNat + 1) 0 s_3 H locs ls (by decide) hF_3 q3_0 q3_1 q3_2 q3_3 q3_4 (by omega) (by omega) (fun q q1 q2 => v3_2 q q1 (by omega)) (fun q q1 q2 => absurd q2 (by omega)) (Nat.lt_succ_self _) hW (lv_sub hl [2, 4, 0] rfl)
      refine x_aload_n hx hb hl 2 rfl dX11_copiesWalks_9 rfl ?_
      refine x_iload hx hb hl 4 rfl dX11_copiesWalks_10 ?_
      refine x_aload_n hx hb hl 0 rfl dX11_copiesWalks_12 rfl ?_
      refine x_iload hx hb hl 4 rfl dX11_copiesWalks_13 ?_
      refine x_iald hx hb hE hW (Or.inl (by decide)) (sa_274 h0 g _) (by omega) (by decide) dX11_copiesWalks_15 ?_
      refine x_rd hW (fun x12 ex12 rx12 => ?_)
      have bx12 : 0 ≤ x12 ∧ x12 ≤ 60 := by rw [ex12]; exact IMn.w q3_0 _ (by omega) (by omega)
      have V15 : x12 = s0 274 i4_3 := by rw [ex12, hF_3 274 (by first | decide | omega)]
      refine x_iast hx hb hE hW (by decide) (fun σ => sa_308 h0 g σ) (by omega) (by decide) rx12 dX11_copiesWalks_16 (fun H locs s13 es13 hW => ?_)
      have q14 : IMn s13 := by rw [es13]; exact IMn_308 q3_0 (by omega)
      have q15 : IMk s13 := by rw [es13]; exact IMk_o (by unfold suIMk; first | decide | omega) q3_1
      have q16 : IMo s13 := by rw [es13]; exact IMo_o (by unfold suIMo; first | decide | omega) q3_2
      have q17 : s13 268 8 = s0 268 8 := (show s13 268 8 = s_3 268 8 from by rw [es13, xU_k _ _ _ (by first | decide | omega)]).trans q3_3
      have q18 : s13 268 58 = s0 268 58 := (show s13 268 58 = s_3 268 58 from by rw [es13, xU_k _ _ _ (by first | decide | omega)]).trans q3_4
      have hF19 := hF_3.put es13 (by omega)
      have E16 := es13
      refine x_iinc (lv' := [(4, .int (xJ (i4_3 + 1))), (0, .ref (h0 + 274)), (1, .ref (h0 + 275)), (2, .ref (h0 + 308)), (3, .ref (h0 + 309))]) hx hb hl 4 rfl dX11_copiesWalks_17 (by decide) rfl (fun ls hl => ?_)
      refine lv_goto (tgt := 3) hx hb dX11_copiesWalks_20 (by decide) ?_
      exact ih3 (i4_3 + 1) s13 H locs ls (by omega) hF19 q14 q15 q16 q17 q18 (by omega) (by omega) (fun q q1 q2 => (Classical.em (q < i4_3)).elim (fun h => by rw [E16, xU_j _ _ (by omega)]; exact v3_2 q q1 h) (fun h => by rw [show q = i4_3 from by omega, E16, xU_s, V15])) (by have hm := hm_3 (); omega) hW (lv_sub hl [1, 2, 3, 4, 0] rfl)
  exact L3 ((2 + 1 - 0 : Int).toNat + 1) 0 s0 H locs ls (by decide) hF p0 p1 p2 k268_8 k268_58 (by omega) (by omega) (fun q q1 q2 => absurd q2 (by omega)) (Nat.lt_succ_self _) hW (lv_sub hl [1, 2, 3, 4, 0] rfl)
set_option maxHeartbeats 4000000 in
set_option maxRecDepth 100000 in
theorem c_X11_copiesWalksJU (l : Launch) (D : va_G) (g : xG) (T : Nat × Nat × Nat) (h0 : Nat) (s0 : xS) (hσ : xRR s0) (hb8 : ∀ q : Int, 0 ≤ q → q < 120 → 0 ≤ s0 309 q ∧ s0 309 q ≤ 8) (p0 : IMn s0) (p1 : IMk s0) (p2 : IMo s0) : Met l yX11_copiesWalks (xws yX11_copiesWalks cX11_copiesWalks 5 none) { frames := 0, cells := 0, slots := 0, locals := 0 } (xP [.ref (h0 + 308), .ref (h0 + 309), .ref (h0 + 274), .ref (h0 + 275)] D g T h0 s0) (xQv D g h0 (fun τ => xFr (fun k => k = 274 ∨ k = 275) s0 τ ∧ (((IMn τ) ∧ (IMk τ) ∧ (IMo τ) ∧ True) ∧ ((∀ q : Int, 0 ≤ q → q < 2 → τ 274 q = s0 308 q) ∧ ∀ q : Int, 0 ≤ q → q < 120 → τ 275 q = s0 309 q)))) 0 0 (xA h0) := by
  refine x_met hσ (by decide) (Nat.le_of_ble_eq_true rfl) ?_
  intro p e s m args below meth c hx hb hr hml hown hT hlk hnm hE hW ls hl
  have hl : lv_has ls 5 [(0, .ref (h0 + 308)), (1, .ref (h0 + 309)), (2, .ref (h0 + 274)), (3, .ref (h0 + 275))] := hl
  obtain ⟨Q, eQ⟩ : ∃ Q, Q = MQ below (xQv D g h0 (fun τ => xFr (fun k => k = 274 ∨ k = 275) s0 τ ∧ (((IMn τ) ∧ (IMk τ) ∧ (IMo τ) ∧ True) ∧ ((∀ q : Int, 0 ≤ q → q < 2 → τ 274 q = s0 308 q) ∧ ∀ q : Int, 0 ≤ q → q < 120 → τ 275 q = s0 309 q)))) args s 0 0 (xA h0) := ⟨_, rfl⟩
  rw [← eQ]
  generalize hHe : ([] : List Loc) = locs at hW ⊢
  obtain ⟨H, eH⟩ : ∃ H, H = s.heap := ⟨_, rfl⟩
  rw [← eH] at hW ⊢
  have hF : xFr (fun k => k = 274 ∨ k = 275) s0 s0 := xFr.rf
  have k268_8 : s0 268 8 = s0 268 8 := rfl
  have k268_58 : s0 268 58 = s0 268 58 := rfl
  refine x_iconst hx hb dX11_copiesWalks_0 ?_
  refine lv_istore (lv' := [(4, .int (xJ 0)), (0, .ref (h0 + 308)), (1, .ref (h0 + 309)), (2, .ref (h0 + 274)), (3, .ref (h0 + 275))]) hx hb dX11_copiesWalks_1 hl (by decide) rfl (fun ls hl => ?_)
  have L3 : ∀ (fu : Nat) (i4_3 : Int) (s_3 : xS) (H : Heap) (locs : List Loc) (ls : Array Slot), (xR i4_3) → (xFr (fun k => k = 274 ∨ k = 275) s0 s_3) → (IMn s_3) → (IMk s_3) → (IMo s_3) → (s_3 268 8 = s0 268 8) → (s_3 268 58 = s0 268 58) → (0 ≤ i4_3) → (i4_3 ≤ 2) → (∀ q : Int, 0 ≤ q → q < i4_3 → s_3 274 q = s0 308 q) → (2 + 1 - i4_3).toNat < fu → xW D g h0 s H locs s_3 → lv_has ls 5 [(0, .ref (h0 + 308)), (1, .ref (h0 + 309)), (2, .ref (h0 + 274)), (3, .ref (h0 + 275)), (4, .int (xJ i4_3))] → W p l e { frames := 0, cells := 0, slots := 0, locals := 0 } s m args below meth c H locs 0 0 Q (F0 m 3 ls []) := by
    intro fu
    induction fu with
    | zero => intro i4_3 s_3 H locs ls ri4_3 hF_3 q3_0 q3_1 q3_2 q3_3 q3_4 v3_0 v3_1 v3_2 hm; exact absurd hm (Nat.not_lt_zero _)
    | succ fu ih3 =>
      intro i4_3 s_3 H locs ls ri4_3 hF_3 q3_0 q3_1 q3_2 q3_3 q3_4 v3_0 v3_1 v3_2 hm hW hl
      have hm_3 := fun (_ : Unit) => hm
      clear hm
      refine x_iload hx hb hl 4 rfl dX11_copiesWalks_3 ?_
      refine x_iconst hx hb dX11_copiesWalks_5 ?_
      refine x_icmp_ge (tgt := 23) hx hb ri4_3 (by decide) dX11_copiesWalks_6 (by decide) (fun c1 => ?_) (fun c1 => ?_)
      · skip
        refine x_iconst hx hb dX11_copiesWalks_23 ?_
        refine lv_istore (lv' := [(4, .int (xJ 0)), (0, .ref (h0 + 308)), (1, .ref (h0 + 309)), (2, .ref (h0 + 274)), (3, .ref (h0 + 275))]) hx hb dX11_copiesWalks_24 hl (by decide) rfl (fun ls hl => ?_)
        have L26 : ∀ (fu : Nat) (i4_26 : Int) (s_26 : xS) (H : Heap) (locs : List Loc) (ls : Array Slot), (xR i4_26) → (xFr (fun k => k = 274 ∨ k = 275) s0 s_26) → (IMn s_26) → (IMk s_26) → (IMo s_26) → (s_26 268 8 = s0 268 8) → (s_26 268 58 = s0 268 58) → (0 ≤ i4_26) → (i4_26 ≤ 120) → (∀ q : Int, 0 ≤ q → q < 2 → s_26 274 q = s0 308 q) → (∀ q : Int, 0 ≤ q → q < i4_26 → s_26 275 q = s0 309 q) → (120 + 1 - i4_26).toNat < fu → xW D g h0 s H locs s_26 → lv_has ls 5 [(1, .ref (h0 + 309)), (3, .ref (h0 + 275)), (4, .int (xJ i4_26))] → W p l e { frames := 0, cells := 0, slots := 0, locals := 0 } s m args below meth c H locs 0 0 Q (F0 m 26 ls []) := by
          intro fu
          induction fu with
          | zero => intro i4_26 s_26 H locs ls ri4_26 hF_26 q26_0 q26_1 q26_2 q26_3 q26_4 v26_0 v26_1 v26_2 v26_3 hm; exact absurd hm (Nat.not_lt_zero _)
          | succ fu ih26 =>
            intro i4_26 s_26 H locs ls ri4_26 hF_26 q26_0 q26_1 q26_2 q26_3 q26_4 v26_0 v26_1 v26_2 v26_3 hm hW hl
            have hm_26 := fun (_ : Unit) => hm
            clear hm
            refine x_iload hx hb hl 2 rfl dX11_copiesWalks_26 ?_
            refine x_bipush hx hb dX11_copiesWalks_28 (by decide) ?_
            refine x_icmp_ge (tgt := 47) hx hb ri4_26 (by decide) dX11_copiesWalks_30 (by decide) (fun c2 => ?_) (fun c2 => ?_)
            · skip
              rw [eQ]
              exact x_vret hx hb hr hlk hW ⟨hF_26, ⟨q26_0, q26_1, q26_2, trivial⟩, ⟨v26_2, fun q q1 q2 => v26_3 q q1 (by omega)⟩⟩ dX11_copiesWalks_47
            refine x_aload_n hx hb hl 1 rfl dX11_copiesWalks_33 rfl ?_
            refine x_iload hx hb hl 2 rfl dX11_copiesWalks_34 ?_
            refine x_aload_n hx hb hl 0 rfl dX11_copiesWalks_36 rfl ?_
            refine x_iload hx hb hl 2 rfl dX11_copiesWalks_37 ?_
            refine x_bald hx hb hE hW (Or.inl (by decide)) (sa_309 h0 g _) (by omega) (by decide) dX11_copiesWalks_39 ?_
            refine x_rd hW (fun x3 ex3 rx3 => ?_)
            have V39 : x3 = s0 309 i4_26 := by rw [ex3, hF_26 309 (by first | decide | omega)]
            obtain ⟨y5, ey5, ry5, my5, by5⟩ := xnbm (v := x3) rx3
            refine x_bast (w := y5) hx hb hE hW (by decide) (fun σ => sa_275 h0 g σ) (by omega) (by decide) ey5 ry5 dX11_copiesWalks_40 (fun H locs s4 es4 hW => ?_)
            have q6 : IMn s4 := by rw [es4]; exact IMn_o (by unfold suIMn; first | decide | omega) q26_0
            have q7 : IMk s4 := by rw [es4]; exact IMk_o (by unfold suIMk; first | decide | omega) q26_1
            have q8 : IMo s4 := by rw [es4]; exact IMo_o (by unfold suIMo; first | decide | omega) q26_2
            have q9 : s4 268 8 = s0 268 8 := (show s4 268 8 = s_26 268 8 from by rw [es4, xU_k _ _ _ (by first | decide | omega)]).trans q26_3
            have q10 : s4 268 58 = s0 268 58 := (show s4 268 58 = s_26 268 58 from by rw [es4, xU_k _ _ _ (by first | decide | omega)]).trans q26_4
            have hF11 := hF_26.put es4 (by omega)
            have E40 := es4
            refine x_iinc (lv' := [(4, .int (xJ (i4_26 + 1))), (1, .ref (h0 + 309)), (3, .ref (h0 + 275))]) hx hb hl 2 rfl dX11_copiesWalks_41 (by decide) rfl (fun ls hl => ?_)
            refine lv_goto (tgt := 26) hx hb dX11_copiesWalks_44 (by decide) ?_
            exact ih26 (i4_26 + 1) s4 H locs ls (by omega) hF11 q6 q7 q8 q9 q10 (by omega) (by omega) (by rw [E40, xU_k _ _ _ (by first | decide | omega)]; exact v26_2) (fun q q1 q2 => (Classical.em (q < i4_26)).elim (fun h => by rw [E40, xU_j _ _ (by omega)]; exact v26_3 q q1 h) (fun h => by rw [show q = i4_26 from by omega, E40, xU_s]; have y := hb8 i4_26 (by omega) (by omega); omega)) (by have hm := hm_26 (); omega) hW (lv_sub hl [1, 2, 0] rfl)
        exact L26 ((120 + 1 - 0 : Int).toNat + 1) 0 s_3 H locs ls (by decide) hF_3 q3_0 q3_1 q3_2 q3_3 q3_4 (by omega) (by omega) (fun q q1 q2 => v3_2 q q1 (by omega)) (fun q q1 q2 => absurd q2 (by omega)) (Nat.lt_succ_self _) hW (lv_sub hl [2, 4, 0] rfl)
      refine x_aload_n hx hb hl 2 rfl dX11_copiesWalks_9 rfl ?_
      refine x_iload hx hb hl 4 rfl dX11_copiesWalks_10 ?_
      refine x_aload_n hx hb hl 0 rfl dX11_copiesWalks_12 rfl ?_
      refine x_iload hx hb hl 4 rfl dX11_copiesWalks_13 ?_
      refine x_iald hx hb hE hW (Or.inl (by decide)) (sa_308 h0 g _) (by omega) (by decide) dX11_copiesWalks_15 ?_
      refine x_rd hW (fun x12 ex12 rx12 => ?_)
      have bx12 : 0 ≤ x12 ∧ x12 ≤ 60 := by rw [ex12]; exact IMn.v q3_0 _ (by omega) (by omega)
      have V15 : x12 = s0 308 i4_3 := by rw [ex12, hF_3 308 (by first | decide | omega)]
      refine x_iast hx hb hE hW (by decide) (fun σ => sa_274 h0 g σ) (by omega) (by decide) rx12 dX11_copiesWalks_16 (fun H locs s13 es13 hW => ?_)
      have q14 : IMn s13 := by rw [es13]; exact IMn_274 q3_0 (by omega)
      have q15 : IMk s13 := by rw [es13]; exact IMk_o (by unfold suIMk; first | decide | omega) q3_1
      have q16 : IMo s13 := by rw [es13]; exact IMo_o (by unfold suIMo; first | decide | omega) q3_2
      have q17 : s13 268 8 = s0 268 8 := (show s13 268 8 = s_3 268 8 from by rw [es13, xU_k _ _ _ (by first | decide | omega)]).trans q3_3
      have q18 : s13 268 58 = s0 268 58 := (show s13 268 58 = s_3 268 58 from by rw [es13, xU_k _ _ _ (by first | decide | omega)]).trans q3_4
      have hF19 := hF_3.put es13 (by omega)
      have E16 := es13
      refine x_iinc (lv' := [(4, .int (xJ (i4_3 + 1))), (0, .ref (h0 + 308)), (1, .ref (h0 + 309)), (2, .ref (h0 + 274)), (3, .ref (h0 + 275))]) hx hb hl 4 rfl dX11_copiesWalks_17 (by decide) rfl (fun ls hl => ?_)
      refine lv_goto (tgt := 3) hx hb dX11_copiesWalks_20 (by decide) ?_
      exact ih3 (i4_3 + 1) s13 H locs ls (by omega) hF19 q14 q15 q16 q17 q18 (by omega) (by omega) (fun q q1 q2 => (Classical.em (q < i4_3)).elim (fun h => by rw [E16, xU_j _ _ (by omega)]; exact v3_2 q q1 h) (fun h => by rw [show q = i4_3 from by omega, E16, xU_s, V15])) (by have hm := hm_3 (); omega) hW (lv_sub hl [1, 2, 3, 4, 0] rfl)
  exact L3 ((2 + 1 - 0 : Int).toNat + 1) 0 s0 H locs ls (by decide) hF p0 p1 p2 k268_8 k268_58 (by omega) (by omega) (fun q q1 q2 => absurd q2 (by omega)) (Nat.lt_succ_self _) hW (lv_sub hl [1, 2, 3, 4, 0] rfl)
set_option maxHeartbeats 4000000 in
set_option maxRecDepth 100000 in
theorem c_X11_keepJ (l : Launch) (D : va_G) (g : xG) (T : Nat × Nat × Nat) (h0 : Nat) (s0 : xS) (hσ : xRR s0) (hb8 : ∀ q : Int, 0 ≤ q → q < 120 → 0 ≤ s0 275 q ∧ s0 275 q ≤ 8) (p0 : IMn s0) (p1 : IMk s0) (p2 : IMo s0) : Met l yX11_keep (xws yX11_keep cX11_keep 1 (some .int)) { frames := 1, cells := 0, slots := 0, locals := 24 } (xP [.ref (h0 + 268)] D g T h0 s0) (xQi D g h0 (fun r τ => xFr (fun k => k = 268 ∨ k = 271 ∨ k = 308 ∨ k = 309) s0 τ ∧ (((IMn τ) ∧ (IMk τ) ∧ (IMo τ) ∧ (τ 268 8 = s0 268 8) ∧ (τ 268 17 = s0 268 17) ∧ (τ 268 48 = s0 268 48) ∧ True) ∧ (τ 268 58 = 1 ∧ τ 271 37 = s0 269 37 ∧ r = s0 269 37 ∧ (∀ q : Int, 0 ≤ q → q < 39 → τ 271 q = s0 269 q) ∧ (∀ q : Int, 0 ≤ q → q < 2 → τ 308 q = s0 274 q) ∧ ∀ q : Int, 0 ≤ q → q < 120 → τ 309 q = s0 275 q)))) 0 0 (xA h0) := by
  refine x_met hσ (by decide) (Nat.le_of_ble_eq_true rfl) ?_
  intro p e s m args below meth c hx hb hr hml hown hT hlk hnm hE hW ls hl
  have hl : lv_has ls 1 [(0, .ref (h0 + 268))] := hl
  obtain ⟨Q, eQ⟩ : ∃ Q, Q = MQ below (xQi D g h0 (fun r τ => xFr (fun k => k = 268 ∨ k = 271 ∨ k = 308 ∨ k = 309) s0 τ ∧ (((IMn τ) ∧ (IMk τ) ∧ (IMo τ) ∧ (τ 268 8 = s0 268 8) ∧ (τ 268 17 = s0 268 17) ∧ (τ 268 48 = s0 268 48) ∧ True) ∧ (τ 268 58 = 1 ∧ τ 271 37 = s0 269 37 ∧ r = s0 269 37 ∧ (∀ q : Int, 0 ≤ q → q < 39 → τ 271 q = s0 269 q) ∧ (∀ q : Int, 0 ≤ q → q < 2 → τ 308 q = s0 274 q) ∧ ∀ q : Int, 0 ≤ q → q < 120 → τ 309 q = s0 275 q)))) args s 0 0 (xA h0) := ⟨_, rfl⟩
  rw [← eQ]
  generalize hHe : ([] : List Loc) = locs at hW ⊢
  obtain ⟨H, eH⟩ : ∃ H, H = s.heap := ⟨_, rfl⟩
  rw [← eH] at hW ⊢
  have hF : xFr (fun k => k = 268 ∨ k = 271 ∨ k = 308 ∨ k = 309) s0 s0 := xFr.rf
  have k268_8 : s0 268 8 = s0 268 8 := rfl
  have k268_17 : s0 268 17 = s0 268 17 := rfl
  have k268_48 : s0 268 48 = s0 268 48 := rfl
  have k268_58 : s0 268 58 = s0 268 58 := rfl
  have k269_0 : s0 269 0 = s0 269 0 := rfl
  have k269_1 : s0 269 1 = s0 269 1 := rfl
  have k269_2 : s0 269 2 = s0 269 2 := rfl
  have k269_3 : s0 269 3 = s0 269 3 := rfl
  have k269_34 : s0 269 34 = s0 269 34 := rfl
  have k269_37 : s0 269 37 = s0 269 37 := rfl
  refine x_aload_n hx hb hl 0 rfl dX11_keep_0 rfl ?_
  refine x_iconst hx hb dX11_keep_1 ?_
  refine x_put (j := 58) hx hb hown hT hE hW cls_X11 (by decide) (fun σ => so_268 h0 g σ) (by decide) (st_X11_58 h0 s0 268 1) (ln_X11_58 h0 _ _) wq1243 rfl rfl rfl (by decide) dX11_keep_2 (fun H locs s1 es1 hW => ?_)
  have q2 : IMn s1 := by rw [es1]; exact IMn_268 p0 (by omega)
  have q3 : IMk s1 := by rw [es1]; exact IMk_268 p1 (by omega)
  have q4 : IMo s1 := by rw [es1]; exact IMo_o (by unfold suIMo; first | decide | omega) p2
  have q5 : s1 268 8 = s0 268 8 := (show s1 268 8 = s0 268 8 from by rw [es1, xU_j _ _ (by decide)]).trans k268_8
  have q6 : s1 268 17 = s0 268 17 := (show s1 268 17 = s0 268 17 from by rw [es1, xU_j _ _ (by decide)]).trans k268_17
  have q7 : s1 268 48 = s0 268 48 := (show s1 268 48 = s0 268 48 from by rw [es1, xU_j _ _ (by decide)]).trans k268_48
  have q8 : s1 268 58 = 1 := by rw [es1, xU_s]
  have q9 : s1 269 0 = s0 269 0 := (show s1 269 0 = s0 269 0 from by rw [es1, xU_k _ _ _ (by first | decide | omega)]).trans k269_0
  have q10 : s1 269 1 = s0 269 1 := (show s1 269 1 = s0 269 1 from by rw [es1, xU_k _ _ _ (by first | decide | omega)]).trans k269_1
  have q11 : s1 269 2 = s0 269 2 := (show s1 269 2 = s0 269 2 from by rw [es1, xU_k _ _ _ (by first | decide | omega)]).trans k269_2
  have q12 : s1 269 3 = s0 269 3 := (show s1 269 3 = s0 269 3 from by rw [es1, xU_k _ _ _ (by first | decide | omega)]).trans k269_3
  have q13 : s1 269 34 = s0 269 34 := (show s1 269 34 = s0 269 34 from by rw [es1, xU_k _ _ _ (by first | decide | omega)]).trans k269_34
  have q14 : s1 269 37 = s0 269 37 := (show s1 269 37 = s0 269 37 from by rw [es1, xU_k _ _ _ (by first | decide | omega)]).trans k269_37
  have hF15 := hF.put es1 (by omega)
  refine x_aload_n hx hb hl 0 rfl dX11_keep_5 rfl ?_
  refine x_get (j := 0) (v := .ref (h0 + 269)) hx hb hown hT hE hW cls_X11 (Or.inl (by decide)) (so_268 h0 g _) (by decide) rfl wq1185 dX11_keep_6 ?_
  refine x_aload_n hx hb hl 0 rfl dX11_keep_9 rfl ?_
  refine x_get (j := 2) (v := .ref (h0 + 271)) hx hb hown hT hE hW cls_X11 (Or.inl (by decide)) (so_268 h0 g _) (by decide) rfl wq1187 dX11_keep_10 ?_
  refine x_gov (x_runS (As := [.ref (h0 + 269), .ref (h0 + 271)]) hx hb hml hown hT hE hW hl.1 cf_X11_copies wq1647 wq1646 (c_X11_copiesMK l D g T h0 s1 hW.2.1 q2 q3 q4) ⟨rfl, rfl, ⟨by decide, by decide⟩, ⟨by decide, by decide⟩⟩ rfl rfl (Nat.le_of_ble_eq_true rfl) dX11_keep_13) hW (fun s17 H locs hp18 hW => ?_)
  obtain ⟨fs17, hp18⟩ := hp18
  have hF19 := hF15.call fs17 (fun k h => by omega)
  have q20 : s17 268 8 = s0 268 8 := (congrFun (fs17 _ (by omega)) _).trans q5
  have q21 : s17 268 17 = s0 268 17 := (congrFun (fs17 _ (by omega)) _).trans q6
  have q22 : s17 268 48 = s0 268 48 := (congrFun (fs17 _ (by omega)) _).trans q7
  have q23 : s17 268 58 = 1 := (congrFun (fs17 _ (by omega)) _).trans q8
  have q24 : s17 269 0 = s0 269 0 := (congrFun (fs17 _ (by omega)) _).trans q9
  have q25 : s17 269 1 = s0 269 1 := (congrFun (fs17 _ (by omega)) _).trans q10
  have q26 : s17 269 2 = s0 269 2 := (congrFun (fs17 _ (by omega)) _).trans q11
  have q27 : s17 269 3 = s0 269 3 := (congrFun (fs17 _ (by omega)) _).trans q12
  have q28 : s17 269 34 = s0 269 34 := (congrFun (fs17 _ (by omega)) _).trans q13
  have q29 : s17 269 37 = s0 269 37 := (congrFun (fs17 _ (by omega)) _).trans q14
  have ghp18 := hp18.2
  have q30 : s17 271 37 = s0 269 37 := (ghp18 37 (by decide) (by decide)).trans ((congrFun (fs17 269 (by first | decide | omega)) 37).symm.trans q29)
  have A13 : ∀ q : Int, 0 ≤ q → q < 39 → s17 271 q = s0 269 q := fun q a b => (ghp18 q a b).trans ((congrFun (fs17 269 (by first | decide | omega)) q).symm.trans (congrFun (hF19 269 (by first | decide | omega)) q))
  have G13 : s17 274 = s0 274 ∧ s17 275 = s0 275 := ⟨hF19 274 (by first | decide | omega), hF19 275 (by first | decide | omega)⟩
  refine x_aload_n hx hb hl 0 rfl dX11_keep_16 rfl ?_
  refine x_get (j := 5) (v := .ref (h0 + 274)) hx hb hown hT hE hW cls_X11 (Or.inl (by decide)) (so_268 h0 g _) (by decide) rfl wq1190 dX11_keep_17 ?_
  refine x_aload_n hx hb hl 0 rfl dX11_keep_20 rfl ?_
  refine x_get (j := 6) (v := .ref (h0 + 275)) hx hb hown hT hE hW cls_X11 (Or.inl (by decide)) (so_268 h0 g _) (by decide) rfl wq1191 dX11_keep_21 ?_
  refine x_aload_n hx hb hl 0 rfl dX11_keep_24 rfl ?_
  refine x_get (j := 59) (v := .ref (h0 + 308)) hx hb hown hT hE hW cls_X11 (Or.inl (by decide)) (so_268 h0 g _) (by decide) rfl wq1244 dX11_keep_25 ?_
  refine x_aload_n hx hb hl 0 rfl dX11_keep_28 rfl ?_
  refine x_get (j := 60) (v := .ref (h0 + 309)) hx hb hown hT hE hW cls_X11 (Or.inl (by decide)) (so_268 h0 g _) (by decide) rfl wq1245 dX11_keep_29 ?_
  refine x_gov (x_runS (As := [.ref (h0 + 274), .ref (h0 + 275), .ref (h0 + 308), .ref (h0 + 309)]) hx hb hml hown hT hE hW hl.1 cf_X11_copiesWalks wq1764 wq1763 (c_X11_copiesWalksJK l D g T h0 s17 hW.2.1 (by rw [G13.2]; exact hb8) hp18.1.1 hp18.1.2.1 hp18.1.2.2.1) ⟨rfl, rfl, ⟨by decide, by decide⟩, ⟨by decide, by decide⟩⟩ rfl rfl (Nat.le_of_ble_eq_true rfl) dX11_keep_32) hW (fun s32 H locs hp33 hW => ?_)
  obtain ⟨fs32, hp33⟩ := hp33
  have hF34 := hF19.call fs32 (fun k h => by omega)
  have q35 : s32 268 8 = s0 268 8 := (congrFun (fs32 _ (by omega)) _).trans q20
  have q36 : s32 268 17 = s0 268 17 := (congrFun (fs32 _ (by omega)) _).trans q21
  have q37 : s32 268 48 = s0 268 48 := (congrFun (fs32 _ (by omega)) _).trans q22
  have q38 : s32 268 58 = 1 := (congrFun (fs32 _ (by omega)) _).trans q23
  have q39 : s32 269 0 = s0 269 0 := (congrFun (fs32 _ (by omega)) _).trans q24
  have q40 : s32 269 1 = s0 269 1 := (congrFun (fs32 _ (by omega)) _).trans q25
  have q41 : s32 269 2 = s0 269 2 := (congrFun (fs32 _ (by omega)) _).trans q26
  have q42 : s32 269 3 = s0 269 3 := (congrFun (fs32 _ (by omega)) _).trans q27
  have q43 : s32 269 34 = s0 269 34 := (congrFun (fs32 _ (by omega)) _).trans q28
  have q44 : s32 269 37 = s0 269 37 := (congrFun (fs32 _ (by omega)) _).trans q29
  have q45 : s32 271 37 = s0 269 37 := (congrFun (fs32 _ (by omega)) _).trans q30
  have ghp33 := hp33.2
  have A32 : ∀ q : Int, 0 ≤ q → q < 39 → s32 271 q = s0 269 q := fun q a b => (congrFun (fs32 271 (by first | decide | omega)) q).trans (A13 q a b)
  have B32 : (∀ q : Int, 0 ≤ q → q < 2 → s32 308 q = s0 274 q) ∧ ∀ q : Int, 0 ≤ q → q < 120 → s32 309 q = s0 275 q := by
    have y := ghp33
    rw [G13.1, G13.2] at y
    exact y
  refine x_aload_n hx hb hl 0 rfl dX11_keep_35 rfl ?_
  refine x_get (j := 0) (v := .ref (h0 + 269)) hx hb hown hT hE hW cls_X11 (Or.inl (by decide)) (so_268 h0 g _) (by decide) rfl wq1185 dX11_keep_36 ?_
  refine x_bipush hx hb dX11_keep_39 (by decide) ?_
  refine x_iald hx hb hE hW (Or.inl (by decide)) (sa_269 h0 g _) ⟨by decide, by decide⟩ (by decide) dX11_keep_41 ?_
  refine x_rd hW (fun x46 ex46 rx46 => ?_)
  have bx46 : 0 ≤ x46 ∧ x46 ≤ 9999 := by rw [ex46]; exact (IMn.n1 hp33.1.1).2.2.2.1
  have fx46 : x46 = s0 269 37 := ex46.trans q44
  rw [eQ]
  exact x_iret hx hb hr hlk hW rx46 ⟨hF34, ⟨hp33.1.1, hp33.1.2.1, hp33.1.2.2.1, q35, q36, q37, trivial⟩, ⟨by omega, by omega, by omega, A32, B32⟩⟩ dX11_keep_42
set_option maxHeartbeats 4000000 in
set_option maxRecDepth 100000 in
theorem c_X11_undoJ (l : Launch) (D : va_G) (g : xG) (T : Nat × Nat × Nat) (h0 : Nat) (s0 : xS) (hσ : xRR s0) (hb8 : ∀ q : Int, 0 ≤ q → q < 120 → 0 ≤ s0 309 q ∧ s0 309 q ≤ 8) (p0 : IMn s0) (p1 : IMk s0) (p2 : IMo s0) : Met l yX11_undo (xws yX11_undo cX11_undo 1 (some .boolean)) { frames := 1, cells := 0, slots := 0, locals := 24 } (xP [.ref (h0 + 268)] D g T h0 s0) (xQi D g h0 (fun r τ => xFr (fun k => k = 269 ∨ k = 274 ∨ k = 275) s0 τ ∧ (((IMn τ) ∧ (IMk τ) ∧ (IMo τ) ∧ True) ∧ ((s0 268 58 = 0 ∧ r = 0 ∧ τ 269 37 = s0 269 37 ∧ τ 269 = s0 269 ∧ τ 274 = s0 274 ∧ τ 275 = s0 275) ∨ (s0 268 58 ≠ 0 ∧ r = 1 ∧ τ 269 37 = s0 271 37 ∧ (∀ q : Int, 0 ≤ q → q < 39 → τ 269 q = s0 271 q) ∧ (∀ q : Int, 0 ≤ q → q < 2 → τ 274 q = s0 308 q) ∧ ∀ q : Int, 0 ≤ q → q < 120 → τ 275 q = s0 309 q))))) 0 0 (xA h0) := by
  refine x_met hσ (by decide) (Nat.le_of_ble_eq_true rfl) ?_
  intro p e s m args below meth c hx hb hr hml hown hT hlk hnm hE hW ls hl
  have hl : lv_has ls 1 [(0, .ref (h0 + 268))] := hl
  obtain ⟨Q, eQ⟩ : ∃ Q, Q = MQ below (xQi D g h0 (fun r τ => xFr (fun k => k = 269 ∨ k = 274 ∨ k = 275) s0 τ ∧ (((IMn τ) ∧ (IMk τ) ∧ (IMo τ) ∧ True) ∧ ((s0 268 58 = 0 ∧ r = 0 ∧ τ 269 37 = s0 269 37 ∧ τ 269 = s0 269 ∧ τ 274 = s0 274 ∧ τ 275 = s0 275) ∨ (s0 268 58 ≠ 0 ∧ r = 1 ∧ τ 269 37 = s0 271 37 ∧ (∀ q : Int, 0 ≤ q → q < 39 → τ 269 q = s0 271 q) ∧ (∀ q : Int, 0 ≤ q → q < 2 → τ 274 q = s0 308 q) ∧ ∀ q : Int, 0 ≤ q → q < 120 → τ 275 q = s0 309 q))))) args s 0 0 (xA h0) := ⟨_, rfl⟩
  rw [← eQ]
  generalize hHe : ([] : List Loc) = locs at hW ⊢
  obtain ⟨H, eH⟩ : ∃ H, H = s.heap := ⟨_, rfl⟩
  rw [← eH] at hW ⊢
  have hF : xFr (fun k => k = 269 ∨ k = 274 ∨ k = 275) s0 s0 := xFr.rf
  have k268_8 : s0 268 8 = s0 268 8 := rfl
  have k268_58 : s0 268 58 = s0 268 58 := rfl
  have k268_17 : s0 268 17 = s0 268 17 := rfl
  have k268_48 : s0 268 48 = s0 268 48 := rfl
  have k268_58 : s0 268 58 = s0 268 58 := rfl
  have k271_37 : s0 271 37 = s0 271 37 := rfl
  have k269_37 : s0 269 37 = s0 269 37 := rfl
  refine x_aload_n hx hb hl 0 rfl dX11_undo_0 rfl ?_
  refine x_get (j := 58) (v := .int (xJ (s0 268 58))) hx hb hown hT hE hW cls_X11 (Or.inl (by decide)) (so_268 h0 g _) (by decide) rfl wq1243 dX11_undo_1 ?_
  refine x_rd hW (fun x1 ex1 rx1 => ?_)
  have fx1 : x1 = s0 268 58 := ex1.trans k268_58
  refine x_if_ne (tgt := 9) hx hb rx1 dX11_undo_4 (by decide) (fun c2 => ?_) (fun c2 => ?_)
  · skip
    refine x_aload_n hx hb hl 0 rfl dX11_undo_9 rfl ?_
    refine x_get (j := 2) (v := .ref (h0 + 271)) hx hb hown hT hE hW cls_X11 (Or.inl (by decide)) (so_268 h0 g _) (by decide) rfl wq1187 dX11_undo_10 ?_
    refine x_aload_n hx hb hl 0 rfl dX11_undo_13 rfl ?_
    refine x_get (j := 0) (v := .ref (h0 + 269)) hx hb hown hT hE hW cls_X11 (Or.inl (by decide)) (so_268 h0 g _) (by decide) rfl wq1185 dX11_undo_14 ?_
    refine x_gov (x_runS (As := [.ref (h0 + 271), .ref (h0 + 269)]) hx hb hml hown hT hE hW hl.1 cf_X11_copies wq1647 wq1646 (c_X11_copiesMU l D g T h0 s0 hW.2.1 p0 p1 p2) ⟨rfl, rfl, ⟨by decide, by decide⟩, ⟨by decide, by decide⟩⟩ rfl rfl (Nat.le_of_ble_eq_true rfl) dX11_undo_17) hW (fun s4 H locs hp5 hW => ?_)
    obtain ⟨fs4, hp5⟩ := hp5
    have hF6 := hF.call fs4 (fun k h => by omega)
    have q7 : s4 268 8 = s0 268 8 := (congrFun (fs4 _ (by omega)) _).trans k268_8
    have q8 : s4 268 58 = s0 268 58 := (congrFun (fs4 _ (by omega)) _).trans k268_58
    have q9 : s4 268 17 = s0 268 17 := (congrFun (fs4 _ (by omega)) _).trans k268_17
    have q10 : s4 268 48 = s0 268 48 := (congrFun (fs4 _ (by omega)) _).trans k268_48
    have q11 : s4 271 37 = s0 271 37 := (congrFun (fs4 _ (by omega)) _).trans k271_37
    have ghp5 := hp5.2
    have q12 : s4 269 37 = s0 271 37 := (ghp5 37 (by decide) (by decide)).trans ((congrFun (fs4 271 (by first | decide | omega)) 37).symm.trans q11)
    have A17 : ∀ q : Int, 0 ≤ q → q < 39 → s4 269 q = s0 271 q := fun q a b => (ghp5 q a b).trans ((congrFun (fs4 271 (by first | decide | omega)) q).symm.trans (congrFun (hF6 271 (by first | decide | omega)) q))
    have G17 : s4 308 = s0 308 ∧ s4 309 = s0 309 := ⟨hF6 308 (by first | decide | omega), hF6 309 (by first | decide | omega)⟩
    refine x_aload_n hx hb hl 0 rfl dX11_undo_20 rfl ?_
    refine x_get (j := 59) (v := .ref (h0 + 308)) hx hb hown hT hE hW cls_X11 (Or.inl (by decide)) (so_268 h0 g _) (by decide) rfl wq1244 dX11_undo_21 ?_
    refine x_aload_n hx hb hl 0 rfl dX11_undo_24 rfl ?_
    refine x_get (j := 60) (v := .ref (h0 + 309)) hx hb hown hT hE hW cls_X11 (Or.inl (by decide)) (so_268 h0 g _) (by decide) rfl wq1245 dX11_undo_25 ?_
    refine x_aload_n hx hb hl 0 rfl dX11_undo_28 rfl ?_
    refine x_get (j := 5) (v := .ref (h0 + 274)) hx hb hown hT hE hW cls_X11 (Or.inl (by decide)) (so_268 h0 g _) (by decide) rfl wq1190 dX11_undo_29 ?_
    refine x_aload_n hx hb hl 0 rfl dX11_undo_32 rfl ?_
    refine x_get (j := 6) (v := .ref (h0 + 275)) hx hb hown hT hE hW cls_X11 (Or.inl (by decide)) (so_268 h0 g _) (by decide) rfl wq1191 dX11_undo_33 ?_
    refine x_gov (x_runS (As := [.ref (h0 + 308), .ref (h0 + 309), .ref (h0 + 274), .ref (h0 + 275)]) hx hb hml hown hT hE hW hl.1 cf_X11_copiesWalks wq1764 wq1763 (c_X11_copiesWalksJU l D g T h0 s4 hW.2.1 (by rw [G17.2]; exact hb8) hp5.1.1 hp5.1.2.1 hp5.1.2.2.1) ⟨rfl, rfl, ⟨by decide, by decide⟩, ⟨by decide, by decide⟩⟩ rfl rfl (Nat.le_of_ble_eq_true rfl) dX11_undo_36) hW (fun s14 H locs hp15 hW => ?_)
    obtain ⟨fs14, hp15⟩ := hp15
    have hF16 := hF6.call fs14 (fun k h => by omega)
    have q17 : s14 268 8 = s0 268 8 := (congrFun (fs14 _ (by omega)) _).trans q7
    have q18 : s14 268 58 = s0 268 58 := (congrFun (fs14 _ (by omega)) _).trans q8
    have q19 : s14 268 17 = s0 268 17 := (congrFun (fs14 _ (by omega)) _).trans q9
    have q20 : s14 268 48 = s0 268 48 := (congrFun (fs14 _ (by omega)) _).trans q10
    have q21 : s14 271 37 = s0 271 37 := (congrFun (fs14 _ (by omega)) _).trans q11
    have q22 : s14 269 37 = s0 271 37 := (congrFun (fs14 _ (by omega)) _).trans q12
    have ghp15 := hp15.2
    have A36 : ∀ q : Int, 0 ≤ q → q < 39 → s14 269 q = s0 271 q := fun q a b => (congrFun (fs14 269 (by first | decide | omega)) q).trans (A17 q a b)
    have B36 : (∀ q : Int, 0 ≤ q → q < 2 → s14 274 q = s0 308 q) ∧ ∀ q : Int, 0 ≤ q → q < 120 → s14 275 q = s0 309 q := by
      have y := ghp15
      rw [G17.1, G17.2] at y
      exact y
    refine x_iconst hx hb dX11_undo_39 ?_
    rw [eQ]
    exact x_zret hx hb hr hlk hW (by omega) ⟨hF16, ⟨hp15.1.1, hp15.1.2.1, hp15.1.2.2.1, trivial⟩, Or.inr ⟨by omega, by omega, by omega, A36, B36⟩⟩ dX11_undo_40
  refine x_iconst hx hb dX11_undo_7 ?_
  rw [eQ]
  exact x_zret hx hb hr hlk hW (by omega) ⟨hF, ⟨p0, p1, p2, trivial⟩, Or.inl ⟨by omega, by omega, by omega, rfl, rfl, rfl⟩⟩ dX11_undo_8


