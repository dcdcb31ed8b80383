set_option maxHeartbeats 4000000 in
set_option maxRecDepth 100000 in
theorem c_X11_isFelonF (l : Launch) (D : va_G) (g : xG) (T : Nat × Nat × Nat) (h0 : Nat) (s0 : xS) (hσ : xRR s0) (f : Int) (rf : xR f) (p0 : IMn s0) (p1 : IMk s0) (p2 : IMo s0) : Met l yX11_isFelon (xws yX11_isFelon cX11_isFelon 2 (some .boolean)) { frames := 1, cells := 0, slots := 0, locals := 21 } (xP [.ref (h0 + 268), .int (xJ f)] D g T h0 s0) (xQi D g h0 (fun r τ => s0 = τ ∧ ((r = 1 ∧ 0 ≤ f ∧ f < 10 ∧ xsh (s0 269 35) f % 2 = 1) ∨ (r = 0 ∧ ¬ (0 ≤ f ∧ f < 10 ∧ xsh (s0 269 35) f % 2 = 1))))) 0 0 (xA h0) := by
  refine x_met hσ (by decide) (Nat.le_of_ble_eq_true rfl) ?_
  intro p e s m args below meth c hx hb hr hml hown hT hlk hnm hE hW ls hl
  have hl : lv_has ls 2 [(0, .ref (h0 + 268)), (1, .int (xJ f))] := hl
  obtain ⟨Q, eQ⟩ : ∃ Q, Q = MQ below (xQi D g h0 (fun r τ => s0 = τ ∧ ((r = 1 ∧ 0 ≤ f ∧ f < 10 ∧ xsh (s0 269 35) f % 2 = 1) ∨ (r = 0 ∧ ¬ (0 ≤ f ∧ f < 10 ∧ xsh (s0 269 35) f % 2 = 1))))) args s 0 0 (xA h0) := ⟨_, rfl⟩
  rw [← eQ]
  generalize hHe : ([] : List Loc) = locs at hW ⊢
  obtain ⟨H, eH⟩ : ∃ H, H = s.heap := ⟨_, rfl⟩
  rw [← eH] at hW ⊢
  have k268_8 : s0 268 8 = s0 268 8 := rfl
  have k268_58 : s0 268 58 = s0 268 58 := rfl
  have k268_17 : s0 268 17 = s0 268 17 := rfl
  have k268_48 : s0 268 48 = s0 268 48 := rfl
  refine x_iload_n hx hb hl 1 rfl dX11_isFelon_0 rfl ?_
  refine x_bipush hx hb dX11_isFelon_1 (by decide) ?_
  refine x_goi (x_runS (As := [.int (xJ f), .int (xJ 10)]) hx hb hml hown hT hE hW hl.1 cf_X11_isFive wq1412 wq1411 (c_X11_isFive l D g T h0 s0 hW.2.1 f rf 10 (by decide)) ⟨rfl, rfl, ⟨by decide, by decide⟩, ⟨by decide, by decide⟩⟩ rfl rfl (Nat.le_of_ble_eq_true rfl) dX11_isFelon_3) hW (fun x1 s2 H locs rx1 hp3 hW => ?_)
  obtain ⟨es2, hp3⟩ := hp3
  subst es2
  have ghp3 := hp3
  refine x_if_eq (tgt := 27) hx hb rx1 dX11_isFelon_6 (by decide) (fun c4 => ?_) (fun c4 => ?_)
  · skip
    refine x_iconst hx hb dX11_isFelon_27 ?_
    rw [eQ]
    exact x_zret hx hb hr hlk hW (by omega) ⟨rfl, by omega⟩ dX11_isFelon_28
  refine x_aload_n hx hb hl 0 rfl dX11_isFelon_9 rfl ?_
  refine x_get (j := 0) (v := .ref (h0 + 269)) hx hb hown hT hE hW cls_X11 (Or.inl (by decide)) (so_268 h0 g _) (by decide) rfl wq1185 dX11_isFelon_10 ?_
  refine x_bipush hx hb dX11_isFelon_13 (by decide) ?_
  refine x_iald hx hb hE hW (Or.inl (by decide)) (sa_269 h0 g _) ⟨by decide, by decide⟩ (by decide) dX11_isFelon_15 ?_
  refine x_rd hW (fun x5 ex5 rx5 => ?_)
  have V15 := ex5
  refine x_iload_n hx hb hl 1 rfl dX11_isFelon_16 rfl ?_
  refine x_goi (x_runS (As := [.int (xJ x5), .int (xJ f)]) hx hb hml hown hT hE hW hl.1 cf_X11_has wq1415 wq1414 (c_X11_has l D g T h0 s0 hW.2.1 x5 rx5 f rf) ⟨rfl, rfl, ⟨by decide, by decide⟩, ⟨by decide, by decide⟩⟩ rfl rfl (Nat.le_of_ble_eq_true rfl) dX11_isFelon_17) hW (fun x6 s7 H locs rx6 hp8 hW => ?_)
  obtain ⟨es7, hp8⟩ := hp8
  subst es7
  have ghp8 := hp8
  have H17 := ghp8.2 (by omega)
  rw [V15] at H17
  refine x_if_eq (tgt := 27) hx hb rx6 dX11_isFelon_20 (by decide) (fun c9 => ?_) (fun c9 => ?_)
  · skip
    refine x_iconst hx hb dX11_isFelon_27 ?_
    rw [eQ]
    exact x_zret hx hb hr hlk hW (by omega) ⟨rfl, by omega⟩ dX11_isFelon_28
  refine x_iconst hx hb dX11_isFelon_23 ?_
  refine lv_goto (tgt := 28) hx hb dX11_isFelon_24 (by decide) ?_
  rw [eQ]
  exact x_zret hx hb hr hlk hW (by omega) ⟨rfl, by omega⟩ dX11_isFelon_28
set_option maxHeartbeats 4000000 in
set_option maxRecDepth 100000 in
theorem c_X11_owesF (l : Launch) (D : va_G) (g : xG) (T : Nat × Nat × Nat) (h0 : Nat) (s0 : xS) (hσ : xRR s0) (f : Int) (rf : xR f) (hf : 0 ≤ f ∧ f < 10) (p0 : IMn s0) (p1 : IMk s0) (p2 : IMo s0) : Met l yX11_owes (xws yX11_owes cX11_owes 2 (some .boolean)) { frames := 2, cells := 0, slots := 0, locals := 42 } (xP [.ref (h0 + 268), .int (xJ f)] D g T h0 s0) (xQi D g h0 (fun r τ => s0 = τ ∧ ((r = 1 ∧ zOw (zYr s0) f) ∨ (r = 0 ∧ ¬ zOw (zYr s0) f)))) 0 0 (xA h0) := by
  refine x_met hσ (by decide) (Nat.le_of_ble_eq_true rfl) ?_
  intro p e s m args below meth c hx hb hr hml hown hT hlk hnm hE hW ls hl
  have hl : lv_has ls 2 [(0, .ref (h0 + 268)), (1, .int (xJ f))] := hl
  obtain ⟨Q, eQ⟩ : ∃ Q, Q = MQ below (xQi D g h0 (fun r τ => s0 = τ ∧ ((r = 1 ∧ zOw (zYr s0) f) ∨ (r = 0 ∧ ¬ zOw (zYr s0) f)))) args s 0 0 (xA h0) := ⟨_, rfl⟩
  rw [← eQ]
  generalize hHe : ([] : List Loc) = locs at hW ⊢
  obtain ⟨H, eH⟩ : ∃ H, H = s.heap := ⟨_, rfl⟩
  rw [← eH] at hW ⊢
  have k268_8 : s0 268 8 = s0 268 8 := rfl
  have k268_58 : s0 268 58 = s0 268 58 := rfl
  have k268_17 : s0 268 17 = s0 268 17 := rfl
  have k268_48 : s0 268 48 = s0 268 48 := rfl
  refine x_aload_n hx hb hl 0 rfl dX11_owes_0 rfl ?_
  refine x_iload_n hx hb hl 1 rfl dX11_owes_1 rfl ?_
  refine x_goi (x_runV (As := [.int (xJ f)]) hx hb hml hown hT hE hW hl.1 (Or.inl (by decide)) (so_268 h0 g _) rfl cf_X11_isFelon wq1423 wq111 wq1421 (c_X11_isFelonF l D g T h0 s0 hW.2.1 f rf p0 p1 p2) ⟨rfl, rfl, ⟨by decide, by decide⟩, ⟨by decide, by decide⟩⟩ rfl rfl (Nat.le_of_ble_eq_true rfl) dX11_owes_2) hW (fun x1 s2 H locs rx1 hp3 hW => ?_)
  obtain ⟨es2, hp3⟩ := hp3
  subst es2
  have ghp3 := hp3
  have H2 := ghp3
  refine x_if_eq (tgt := 38) hx hb rx1 dX11_owes_5 (by decide) (fun c4 => ?_) (fun c4 => ?_)
  · skip
    refine x_iconst hx hb dX11_owes_38 ?_
    rw [eQ]
    exact x_zret hx hb hr hlk hW (by omega) ⟨rfl, by
        have z := (IMn.n1 p0).2.2.1 (4 + f) (by omega) (by omega)
        rw [zOw_r hf]
        omega⟩ dX11_owes_39
  refine x_aload_n hx hb hl 0 rfl dX11_owes_8 rfl ?_
  refine x_get (j := 0) (v := .ref (h0 + 269)) hx hb hown hT hE hW cls_X11 (Or.inl (by decide)) (so_268 h0 g _) (by decide) rfl wq1185 dX11_owes_9 ?_
  refine x_bipush hx hb dX11_owes_12 (by decide) ?_
  refine x_iload_n hx hb hl 1 rfl dX11_owes_14 rfl ?_
  refine x_iadd hx hb dX11_owes_15 ?_
  refine x_iald hx hb hE hW (Or.inl (by decide)) (sa_269 h0 g _) (by omega) (by decide) dX11_owes_16 ?_
  refine x_rd hW (fun x5 ex5 rx5 => ?_)
  have V16 : x5 = s0 269 (14 + f) := ex5
  refine x_if_le (tgt := 38) hx hb rx5 dX11_owes_17 (by decide) (fun c6 => ?_) (fun c6 => ?_)
  · skip
    refine x_iconst hx hb dX11_owes_38 ?_
    rw [eQ]
    exact x_zret hx hb hr hlk hW (by omega) ⟨rfl, by
        have z := (IMn.n1 p0).2.2.1 (4 + f) (by omega) (by omega)
        rw [zOw_r hf]
        omega⟩ dX11_owes_39
  refine x_aload_n hx hb hl 0 rfl dX11_owes_20 rfl ?_
  refine x_get (j := 0) (v := .ref (h0 + 269)) hx hb hown hT hE hW cls_X11 (Or.inl (by decide)) (so_268 h0 g _) (by decide) rfl wq1185 dX11_owes_21 ?_
  refine x_bipush hx hb dX11_owes_24 (by decide) ?_
  refine x_iald hx hb hE hW (Or.inl (by decide)) (sa_269 h0 g _) ⟨by decide, by decide⟩ (by decide) dX11_owes_26 ?_
  refine x_rd hW (fun x7 ex7 rx7 => ?_)
  have V26 := ex7
  refine x_iload_n hx hb hl 1 rfl dX11_owes_27 rfl ?_
  refine x_goi (x_runS (As := [.int (xJ x7), .int (xJ f)]) hx hb hml hown hT hE hW hl.1 cf_X11_has wq1415 wq1414 (c_X11_has l D g T h0 s0 hW.2.1 x7 rx7 f rf) ⟨rfl, rfl, ⟨by decide, by decide⟩, ⟨by decide, by decide⟩⟩ rfl rfl (Nat.le_of_ble_eq_true rfl) dX11_owes_28) hW (fun x8 s9 H locs rx8 hp10 hW => ?_)
  obtain ⟨es9, hp10⟩ := hp10
  subst es9
  have ghp10 := hp10
  have H28 := ghp10.2 (by omega)
  rw [V26] at H28
  refine x_if_ne (tgt := 38) hx hb rx8 dX11_owes_31 (by decide) (fun c11 => ?_) (fun c11 => ?_)
  · skip
    refine x_iconst hx hb dX11_owes_38 ?_
    rw [eQ]
    exact x_zret hx hb hr hlk hW (by omega) ⟨rfl, by
        have z := (IMn.n1 p0).2.2.1 (4 + f) (by omega) (by omega)
        rw [zOw_r hf]
        omega⟩ dX11_owes_39
  refine x_iconst hx hb dX11_owes_34 ?_
  refine lv_goto (tgt := 39) hx hb dX11_owes_35 (by decide) ?_
  rw [eQ]
  exact x_zret hx hb hr hlk hW (by omega) ⟨rfl, by
    have z := (IMn.n1 p0).2.2.1 (4 + f) (by omega) (by omega)
    rw [zOw_r hf]
    omega⟩ dX11_owes_39
set_option maxHeartbeats 4000000 in
set_option maxRecDepth 100000 in
theorem c_X11_byFelonF (l : Launch) (D : va_G) (g : xG) (T : Nat × Nat × Nat) (h0 : Nat) (s0 : xS) (hσ : xRR s0) (q : Int) (rq : xR q) (w : Int) (rw : xR w) (f : Int) (rf : xR f) (q9 : zLaw) (K9 : Int → Int) (hok : zLok q9) (hlr : zLR s0 q9) (hK : ∀ t : Int, 0 ≤ t → t < 100 → s0 272 t = K9 t ∧ 0 ≤ K9 t ∧ K9 t ≤ 3) (hf : 0 ≤ f ∧ f < 10) (htl : xsh (s0 269 35) f % 2 = 1) (hkd : q ≠ 110) (hw0 : 0 ≤ w) (p0 : IMn s0) (p1 : IMk s0) (p2 : IMo s0) : Met l yX11_byFelon (xws yX11_byFelon cX11_byFelon 4 (some .int)) { frames := 3, cells := 0, slots := 0, locals := 73 } (xP [.ref (h0 + 268), .int (xJ q), .int (xJ w), .int (xJ f)] D g T h0 s0) (xQi D g h0 (fun r τ => xFr (fun k => k = 293 ∨ k = 294) s0 τ ∧ (((IMn τ) ∧ (IMk τ) ∧ (IMo τ) ∧ True) ∧ (r = zvF K9 q9 (zYr s0) q w f)))) 0 0 (xA h0) := by
  refine x_met hσ (by decide) (Nat.le_of_ble_eq_true rfl) ?_
  intro p e s m args below meth c hx hb hr hml hown hT hlk hnm hE hW ls hl
  have hl : lv_has ls 4 [(0, .ref (h0 + 268)), (1, .int (xJ q)), (2, .int (xJ w)), (3, .int (xJ f))] := hl
  obtain ⟨Q, eQ⟩ : ∃ Q, Q = MQ below (xQi D g h0 (fun r τ => xFr (fun k => k = 293 ∨ k = 294) s0 τ ∧ (((IMn τ) ∧ (IMk τ) ∧ (IMo τ) ∧ True) ∧ (r = zvF K9 q9 (zYr s0) q w f)))) args s 0 0 (xA h0) := ⟨_, rfl⟩
  rw [← eQ]
  generalize hHe : ([] : List Loc) = locs at hW ⊢
  obtain ⟨H, eH⟩ : ∃ H, H = s.heap := ⟨_, rfl⟩
  rw [← eH] at hW ⊢
  have hF : xFr (fun k => k = 293 ∨ k = 294) s0 s0 := xFr.rf
  have k268_8 : s0 268 8 = s0 268 8 := rfl
  have k268_58 : s0 268 58 = s0 268 58 := rfl
  have k268_17 : s0 268 17 = s0 268 17 := rfl
  have k268_48 : s0 268 48 = s0 268 48 := rfl
  have hm7 := (IMn.n1 p0).2.2.2.1
  have hn4 := (IMn.n1 p0).2.2.1 (4 + f) (by omega) (by omega)
  refine x_aload_n hx hb hl 0 rfl dX11_byFelon_0 rfl ?_
  refine x_aload_n hx hb hl 0 rfl dX11_byFelon_1 rfl ?_
  refine x_get (j := 0) (v := .ref (h0 + 269)) hx hb hown hT hE hW cls_X11 (Or.inl (by decide)) (so_268 h0 g _) (by decide) rfl wq1185 dX11_byFelon_2 ?_
  refine x_bipush hx hb dX11_byFelon_5 (by decide) ?_
  refine x_iald hx hb hE hW (Or.inl (by decide)) (sa_269 h0 g _) ⟨by decide, by decide⟩ (by decide) dX11_byFelon_7 ?_
  refine x_rd hW (fun x1 ex1 rx1 => ?_)
  have bx1 : 0 ≤ x1 ∧ x1 ≤ 9999 := by rw [ex1]; exact (IMn.n1 p0).2.2.2.1
  have V7 : x1 = s0 269 37 := ex1
  refine x_gov (x_runV (As := [.int (xJ x1)]) hx hb hml hown hT hE hW hl.1 (Or.inl (by decide)) (so_268 h0 g _) rfl cf_X11_feels wq1573 wq136 wq1571 (c_X11_feelsF l D g T h0 s0 hW.2.1 x1 rx1 (by omega) p0 p1 p2) ⟨rfl, rfl, ⟨by decide, by decide⟩, ⟨by decide, by decide⟩⟩ rfl rfl (Nat.le_of_ble_eq_true rfl) dX11_byFelon_8) hW (fun s3 H locs hp4 hW => ?_)
  obtain ⟨fs3, hp4⟩ := hp4
  have hF5 := hF.call fs3 (fun k h => by omega)
  have q6 : s3 268 8 = s0 268 8 := (congrFun (fs3 _ (by omega)) _).trans k268_8
  have q7 : s3 268 58 = s0 268 58 := (congrFun (fs3 _ (by omega)) _).trans k268_58
  have q8 : s3 268 17 = s0 268 17 := (congrFun (fs3 _ (by omega)) _).trans k268_17
  have q10 : s3 268 48 = s0 268 48 := (congrFun (fs3 _ (by omega)) _).trans k268_48
  have ghp4 := hp4.2
  have H8 := ghp4
  rw [V7] at H8
  refine x_aload_n hx hb hl 0 rfl dX11_byFelon_11 rfl ?_
  refine x_get (j := 39) (v := .ref (h0 + 294)) hx hb hown hT hE hW cls_X11 (Or.inl (by decide)) (so_268 h0 g _) (by decide) rfl wq1224 dX11_byFelon_12 ?_
  refine x_iconst hx hb dX11_byFelon_15 ?_
  refine x_iload_n hx hb hl 3 rfl dX11_byFelon_16 rfl ?_
  refine x_iast hx hb hE hW (by decide) (fun σ => sa_294 h0 g σ) ⟨by decide, by decide⟩ (by decide) rf dX11_byFelon_17 (fun H locs s11 es11 hW => ?_)
  have q12 : s11 268 8 = s0 268 8 := (show s11 268 8 = s3 268 8 from by rw [es11, xU_k _ _ _ (by first | decide | omega)]).trans q6
  have q13 : s11 268 58 = s0 268 58 := (show s11 268 58 = s3 268 58 from by rw [es11, xU_k _ _ _ (by first | decide | omega)]).trans q7
  have q14 : s11 268 17 = s0 268 17 := (show s11 268 17 = s3 268 17 from by rw [es11, xU_k _ _ _ (by first | decide | omega)]).trans q8
  have q15 : s11 268 48 = s0 268 48 := (show s11 268 48 = s3 268 48 from by rw [es11, xU_k _ _ _ (by first | decide | omega)]).trans q10
  have q16 : IMn s11 := by rw [es11]; exact IMn_o (by unfold suIMn; first | decide | omega) hp4.1.1
  have q17 : IMk s11 := by rw [es11]; exact IMk_o (by unfold suIMk; first | decide | omega) hp4.1.2.1
  have q18 : IMo s11 := by rw [es11]; exact IMo_o (by unfold suIMo; first | decide | omega) hp4.1.2.2.1
  have hF19 := hF5.put es11 (by omega)
  have E17 := es11
  refine x_aload_n hx hb hl 0 rfl dX11_byFelon_18 rfl ?_
  refine x_get (j := 39) (v := .ref (h0 + 294)) hx hb hown hT hE hW cls_X11 (Or.inl (by decide)) (so_268 h0 g _) (by decide) rfl wq1224 dX11_byFelon_19 ?_
  refine x_iconst hx hb dX11_byFelon_22 ?_
  refine x_aload_n hx hb hl 0 rfl dX11_byFelon_23 rfl ?_
  refine x_get (j := 0) (v := .ref (h0 + 269)) hx hb hown hT hE hW cls_X11 (Or.inl (by decide)) (so_268 h0 g _) (by decide) rfl wq1185 dX11_byFelon_24 ?_
  refine x_bipush hx hb dX11_byFelon_27 (by decide) ?_
  refine x_iload_n hx hb hl 3 rfl dX11_byFelon_29 rfl ?_
  refine x_iadd hx hb dX11_byFelon_30 ?_
  refine x_iald hx hb hE hW (Or.inl (by decide)) (sa_269 h0 g _) (by omega) (by decide) dX11_byFelon_31 ?_
  refine x_rd hW (fun x20 ex20 rx20 => ?_)
  have V31 : x20 = s0 269 (14 + f) := by rw [ex20, hF19 269 (by first | decide | omega)]
  refine x_iast hx hb hE hW (by decide) (fun σ => sa_294 h0 g σ) ⟨by decide, by decide⟩ (by decide) rx20 dX11_byFelon_32 (fun H locs s21 es21 hW => ?_)
  have q22 : s21 268 8 = s0 268 8 := (show s21 268 8 = s11 268 8 from by rw [es21, xU_k _ _ _ (by first | decide | omega)]).trans q12
  have q23 : s21 268 58 = s0 268 58 := (show s21 268 58 = s11 268 58 from by rw [es21, xU_k _ _ _ (by first | decide | omega)]).trans q13
  have q24 : s21 268 17 = s0 268 17 := (show s21 268 17 = s11 268 17 from by rw [es21, xU_k _ _ _ (by first | decide | omega)]).trans q14
  have q25 : s21 268 48 = s0 268 48 := (show s21 268 48 = s11 268 48 from by rw [es21, xU_k _ _ _ (by first | decide | omega)]).trans q15
  have q26 : IMn s21 := by rw [es21]; exact IMn_o (by unfold suIMn; first | decide | omega) q16
  have q27 : IMk s21 := by rw [es21]; exact IMk_o (by unfold suIMk; first | decide | omega) q17
  have q28 : IMo s21 := by rw [es21]; exact IMo_o (by unfold suIMo; first | decide | omega) q18
  have hF29 := hF19.put es21 (by omega)
  have E32 := es21
  refine x_aload_n hx hb hl 0 rfl dX11_byFelon_33 rfl ?_
  refine x_get (j := 39) (v := .ref (h0 + 294)) hx hb hown hT hE hW cls_X11 (Or.inl (by decide)) (so_268 h0 g _) (by decide) rfl wq1224 dX11_byFelon_34 ?_
  refine x_iconst hx hb dX11_byFelon_37 ?_
  refine x_aload_n hx hb hl 0 rfl dX11_byFelon_38 rfl ?_
  refine x_get (j := 0) (v := .ref (h0 + 269)) hx hb hown hT hE hW cls_X11 (Or.inl (by decide)) (so_268 h0 g _) (by decide) rfl wq1185 dX11_byFelon_39 ?_
  refine x_bipush hx hb dX11_byFelon_42 (by decide) ?_
  refine x_iload_n hx hb hl 3 rfl dX11_byFelon_44 rfl ?_
  refine x_iadd hx hb dX11_byFelon_45 ?_
  refine x_iald hx hb hE hW (Or.inl (by decide)) (sa_269 h0 g _) (by omega) (by decide) dX11_byFelon_46 ?_
  refine x_rd hW (fun x30 ex30 rx30 => ?_)
  have V46 : x30 = s0 269 (24 + f) := by rw [ex30, hF29 269 (by first | decide | omega)]
  refine x_iast hx hb hE hW (by decide) (fun σ => sa_294 h0 g σ) ⟨by decide, by decide⟩ (by decide) rx30 dX11_byFelon_47 (fun H locs s31 es31 hW => ?_)
  have q32 : s31 268 8 = s0 268 8 := (show s31 268 8 = s21 268 8 from by rw [es31, xU_k _ _ _ (by first | decide | omega)]).trans q22
  have q33 : s31 268 58 = s0 268 58 := (show s31 268 58 = s21 268 58 from by rw [es31, xU_k _ _ _ (by first | decide | omega)]).trans q23
  have q34 : s31 268 17 = s0 268 17 := (show s31 268 17 = s21 268 17 from by rw [es31, xU_k _ _ _ (by first | decide | omega)]).trans q24
  have q35 : s31 268 48 = s0 268 48 := (show s31 268 48 = s21 268 48 from by rw [es31, xU_k _ _ _ (by first | decide | omega)]).trans q25
  have q36 : IMn s31 := by rw [es31]; exact IMn_o (by unfold suIMn; first | decide | omega) q26
  have q37 : IMk s31 := by rw [es31]; exact IMk_o (by unfold suIMk; first | decide | omega) q27
  have q38 : IMo s31 := by rw [es31]; exact IMo_o (by unfold suIMo; first | decide | omega) q28
  have hF39 := hF29.put es31 (by omega)
  have E47 := es31
  refine x_aload_n hx hb hl 0 rfl dX11_byFelon_48 rfl ?_
  refine x_get (j := 39) (v := .ref (h0 + 294)) hx hb hown hT hE hW cls_X11 (Or.inl (by decide)) (so_268 h0 g _) (by decide) rfl wq1224 dX11_byFelon_49 ?_
  refine x_bipush hx hb dX11_byFelon_52 (by decide) ?_
  refine x_aload_n hx hb hl 0 rfl dX11_byFelon_54 rfl ?_
  refine x_get (j := 3) (v := .ref (h0 + 272)) hx hb hown hT hE hW cls_X11 (Or.inl (by decide)) (so_268 h0 g _) (by decide) rfl wq1188 dX11_byFelon_55 ?_
  refine x_aload_n hx hb hl 0 rfl dX11_byFelon_58 rfl ?_
  refine x_get (j := 0) (v := .ref (h0 + 269)) hx hb hown hT hE hW cls_X11 (Or.inl (by decide)) (so_268 h0 g _) (by decide) rfl wq1185 dX11_byFelon_59 ?_
  refine x_iconst hx hb dX11_byFelon_62 ?_
  refine x_iload_n hx hb hl 3 rfl dX11_byFelon_63 rfl ?_
  refine x_iadd hx hb dX11_byFelon_64 ?_
  refine x_iald hx hb hE hW (Or.inl (by decide)) (sa_269 h0 g _) (by omega) (by decide) dX11_byFelon_65 ?_
  refine x_rd hW (fun x40 ex40 rx40 => ?_)
  have bx40 : 0 ≤ x40 ∧ x40 ≤ 99 := by rw [ex40]; exact (IMn.n1 q36).2.2.1 _ (by omega) (by omega)
  have V65 : x40 = s0 269 (4 + f) := by rw [ex40, hF39 269 (by first | decide | omega)]
  refine x_iald hx hb hE hW (Or.inl (by decide)) (sa_272 h0 g _) (by omega) (by decide) dX11_byFelon_66 ?_
  refine x_rd hW (fun x41 ex41 rx41 => ?_)
  have V66 : x41 = K9 (s0 269 (4 + f)) := by
    rw [ex41, hF39 272 (by first | decide | omega), V65]
    exact (hK _ (by omega) (by omega)).1
  refine x_iconst hx hb dX11_byFelon_67 ?_
  have J76 : ∀ (t0_76 : Int) (ls : Array Slot), (xR t0_76) → (t0_76 = (if K9 (s0 269 (4 + f)) = 2 then 1 else 0)) → lv_has ls 4 [(0, .ref (h0 + 268)), (1, .int (xJ q)), (2, .int (xJ w))] → W p l e { frames := 3, cells := 0, slots := 0, locals := 73 } s m args below meth c H locs 0 0 Q (F0 m 76 ls [.int (xJ t0_76), .int (xJ 6), .ref (h0 + 294)]) := by
    intro t0_76 ls rt0_76 v76_0  hl
    refine x_iast hx hb hE hW (by decide) (fun σ => sa_294 h0 g σ) ⟨by decide, by decide⟩ (by decide) rt0_76 dX11_byFelon_76 (fun H locs s42 es42 hW => ?_)
    have q43 : s42 268 8 = s0 268 8 := (show s42 268 8 = s31 268 8 from by rw [es42, xU_k _ _ _ (by first | decide | omega)]).trans q32
    have q44 : s42 268 58 = s0 268 58 := (show s42 268 58 = s31 268 58 from by rw [es42, xU_k _ _ _ (by first | decide | omega)]).trans q33
    have q45 : s42 268 17 = s0 268 17 := (show s42 268 17 = s31 268 17 from by rw [es42, xU_k _ _ _ (by first | decide | omega)]).trans q34
    have q46 : s42 268 48 = s0 268 48 := (show s42 268 48 = s31 268 48 from by rw [es42, xU_k _ _ _ (by first | decide | omega)]).trans q35
    have q47 : IMn s42 := by rw [es42]; exact IMn_o (by unfold suIMn; first | decide | omega) q36
    have q48 : IMk s42 := by rw [es42]; exact IMk_o (by unfold suIMk; first | decide | omega) q37
    have q49 : IMo s42 := by rw [es42]; exact IMo_o (by unfold suIMo; first | decide | omega) q38
    have hF50 := hF39.put es42 (by omega)
    have T76 : ∀ k : Int, 0 ≤ k → k < 7 → s42 294 k = zff K9 (zYr s0) f k := fun k k1 k2 => by
      rw [zff_r hf htl, es42, xU_xud, v76_0, E47, xU_xud, V46, E32, xU_xud, V31, E17, xU_xud]
      exact zud_c (fun _ => zud_c (fun _ => zud_c (fun _ => zud_c (fun _ => H8 k k1 k2))))
    refine x_aload_n hx hb hl 0 rfl dX11_byFelon_77 rfl ?_
    refine x_iload_n hx hb hl 1 rfl dX11_byFelon_78 rfl ?_
    refine x_iload_n hx hb hl 2 rfl dX11_byFelon_79 rfl ?_
    refine x_goi (x_runV (As := [.int (xJ q), .int (xJ w)]) hx hb hml hown hT hE hW hl.1 (Or.inl (by decide)) (so_268 h0 g _) rfl cf_X11_byLaw wq1577 wq137 wq1575 (c_X11_byLawF l D g T h0 s42 hW.2.1 q rq w rw q9 (zff K9 (zYr s0) f) (hok) (by first | exact hlr | exact hlr.f (fun k hk => hF50 k (by omega)) (by omega)) (T76) (hkd) (hw0) q47 q48 q49) ⟨rfl, rfl, ⟨by decide, by decide⟩, ⟨by decide, by decide⟩⟩ rfl rfl (Nat.le_of_ble_eq_true rfl) dX11_byFelon_80) hW (fun x51 s52 H locs rx51 hp53 hW => ?_)
    obtain ⟨fs52, hp53⟩ := hp53
    have hF54 := hF50.call fs52 (fun k h => by omega)
    have q55 : s52 268 8 = s0 268 8 := (congrFun (fs52 _ (by omega)) _).trans q43
    have q56 : s52 268 58 = s0 268 58 := (congrFun (fs52 _ (by omega)) _).trans q44
    have q57 : s52 268 17 = s0 268 17 := (congrFun (fs52 _ (by omega)) _).trans q45
    have q58 : s52 268 48 = s0 268 48 := (congrFun (fs52 _ (by omega)) _).trans q46
    have ghp53 := hp53.2
    have H80 := ghp53
    rw [eQ]
    exact x_iret hx hb hr hlk hW rx51 ⟨hF54, ⟨hp53.1.1, hp53.1.2.1, hp53.1.2.2.1, trivial⟩, H80⟩ dX11_byFelon_83
  refine x_icmp_ne (tgt := 75) hx hb rx41 (by decide) dX11_byFelon_68 (by decide) (fun c59 => ?_) (fun c59 => ?_)
  · skip
    refine x_iconst hx hb dX11_byFelon_75 ?_
    exact J76 0 ls (by decide) (by first | (rw [if_pos (by omega)]) | (rw [if_neg (by omega)]))  (lv_sub hl [0, 1, 2] rfl)
  refine x_iconst hx hb dX11_byFelon_71 ?_
  refine lv_goto (tgt := 76) hx hb dX11_byFelon_72 (by decide) ?_
  exact J76 1 ls (by decide) (by first | (rw [if_pos (by omega)]) | (rw [if_neg (by omega)]))  (lv_sub hl [0, 1, 2] rfl)
set_option maxHeartbeats 4000000 in
set_option maxRecDepth 100000 in
theorem c_X11_laysCostsF (l : Launch) (D : va_G) (g : xG) (T : Nat × Nat × Nat) (h0 : Nat) (s0 : xS) (hσ : xRR s0) (a : Int) (ra : xR a) (n : Int) (rn : xR n) (b : Int) (rb : xR b) (K9 : Int → Int) (hK : ∀ t : Int, 0 ≤ t → t < 100 → s0 272 t = K9 t ∧ 0 ≤ K9 t ∧ K9 t ≤ 3) (ha : 0 ≤ a ∧ a < 100) (hn : 0 ≤ n ∧ n ≤ 3) (hb0 : b = 0) (p0 : IMn s0) (p1 : IMk s0) (p2 : IMo s0) : Met l yX11_laysCosts (xws yX11_laysCosts cX11_laysCosts 8 none) { frames := 3, cells := 0, slots := 0, locals := 66 } (xP [.ref (h0 + 268), .int (xJ a), .int (xJ n), .int (xJ b)] D g T h0 s0) (xQv D g h0 (fun τ => xFr (fun k => k = 296) s0 τ ∧ (((IMn τ) ∧ (IMk τ) ∧ (IMo τ) ∧ True) ∧ (∀ t : Int, 0 ≤ t → t < 100 → τ 296 t = zdf 1000000000 (zds K9 a n.toNat t))))) 0 0 (xA h0) := by
  refine x_met hσ (by decide) (Nat.le_of_ble_eq_true rfl) ?_
  intro p e s m args below meth c hx hb hr hml hown hT hlk hnm hE hW ls hl
  have hl : lv_has ls 8 [(0, .ref (h0 + 268)), (1, .int (xJ a)), (2, .int (xJ n)), (3, .int (xJ b))] := hl
  obtain ⟨Q, eQ⟩ : ∃ Q, Q = MQ below (xQv D g h0 (fun τ => xFr (fun k => k = 296) s0 τ ∧ (((IMn τ) ∧ (IMk τ) ∧ (IMo τ) ∧ True) ∧ (∀ t : Int, 0 ≤ t → t < 100 → τ 296 t = zdf 1000000000 (zds K9 a n.toNat t))))) args s 0 0 (xA h0) := ⟨_, rfl⟩
  rw [← eQ]
  generalize hHe : ([] : List Loc) = locs at hW ⊢
  obtain ⟨H, eH⟩ : ∃ H, H = s.heap := ⟨_, rfl⟩
  rw [← eH] at hW ⊢
  have hF : xFr (fun k => k = 296) s0 s0 := xFr.rf
  have k268_8 : s0 268 8 = s0 268 8 := rfl
  have k268_58 : s0 268 58 = s0 268 58 := rfl
  have k268_17 : s0 268 17 = s0 268 17 := rfl
  have k268_48 : s0 268 48 = s0 268 48 := rfl
  refine x_iconst hx hb dX11_laysCosts_0 ?_
  refine lv_istore (lv' := [(4, .int (xJ 0)), (0, .ref (h0 + 268)), (1, .int (xJ a)), (2, .int (xJ n)), (3, .int (xJ b))]) hx hb dX11_laysCosts_1 hl (by decide) rfl (fun ls hl => ?_)
  have L3 : ∀ (fu : Nat) (i4_3 : Int) (s_3 : xS) (H : Heap) (locs : List Loc) (ls : Array Slot), (xR i4_3) → (xFr (fun k => k = 296) s0 s_3) → (IMn s_3) → (IMk s_3) → (IMo s_3) → (s_3 268 8 = s0 268 8) → (s_3 268 58 = s0 268 58) → (s_3 268 17 = s0 268 17) → (s_3 268 48 = s0 268 48) → (0 ≤ i4_3 ∧ i4_3 ≤ 100) → (∀ t : Int, 0 ≤ t → t < i4_3 → (t = a ∧ s_3 296 t = 0) ∨ (t ≠ a ∧ s_3 296 t = 1000000000)) → (100 - i4_3).toNat < fu → xW D g h0 s H locs s_3 → lv_has ls 8 [(0, .ref (h0 + 268)), (1, .int (xJ a)), (2, .int (xJ n)), (3, .int (xJ b)), (4, .int (xJ i4_3))] → W p l e { frames := 3, cells := 0, slots := 0, locals := 66 } s m args below meth c H locs 0 0 Q (F0 m 3 ls []) := by
    intro fu
    induction fu with
    | zero => intro i4_3 s_3 H locs ls ri4_3 hF_3 q3_0 q3_1 q3_2 q3_3 q3_4 q3_5 q3_6 v3_0 v3_1 hm; exact absurd hm (Nat.not_lt_zero _)
    | succ fu ih3 =>
      intro i4_3 s_3 H locs ls ri4_3 hF_3 q3_0 q3_1 q3_2 q3_3 q3_4 q3_5 q3_6 v3_0 v3_1 hm hW hl
      have hm_3 := fun (_ : Unit) => hm
      clear hm
      refine x_iload hx hb hl 4 rfl dX11_laysCosts_3 ?_
      refine x_bipush hx hb dX11_laysCosts_5 (by decide) ?_
      refine x_icmp_ge (tgt := 36) hx hb ri4_3 (by decide) dX11_laysCosts_7 (by decide) (fun c1 => ?_) (fun c1 => ?_)
      · skip
        refine x_iconst hx hb dX11_laysCosts_36 ?_
        refine lv_istore (lv' := [(4, .int (xJ 0)), (0, .ref (h0 + 268)), (1, .int (xJ a)), (2, .int (xJ n)), (3, .int (xJ b))]) hx hb dX11_laysCosts_37 hl (by decide) rfl (fun ls hl => ?_)
        have L39 : ∀ (fu : Nat) (i4_39 : Int) (s_39 : xS) (H : Heap) (locs : List Loc) (ls : Array Slot), (xR i4_39) → (xFr (fun k => k = 296) s0 s_39) → (IMn s_39) → (IMk s_39) → (IMo s_39) → (s_39 268 8 = s0 268 8) → (s_39 268 58 = s0 268 58) → (s_39 268 17 = s0 268 17) → (s_39 268 48 = s0 268 48) → (0 ≤ i4_39 ∧ i4_39 ≤ n) → (∀ t : Int, 0 ≤ t → t < 100 → s_39 296 t = zdf 1000000000 (zds K9 a (i4_39).toNat t)) → (n - i4_39).toNat < fu → xW D g h0 s H locs s_39 → lv_has ls 8 [(0, .ref (h0 + 268)), (2, .int (xJ n)), (3, .int (xJ b)), (4, .int (xJ i4_39))] → W p l e { frames := 3, cells := 0, slots := 0, locals := 66 } s m args below meth c H locs 0 0 Q (F0 m 39 ls []) := by
          intro fu
          induction fu with
          | zero => intro i4_39 s_39 H locs ls ri4_39 hF_39 q39_0 q39_1 q39_2 q39_3 q39_4 q39_5 q39_6 v39_0 v39_1 hm; exact absurd hm (Nat.not_lt_zero _)
          | succ fu ih39 =>
            intro i4_39 s_39 H locs ls ri4_39 hF_39 q39_0 q39_1 q39_2 q39_3 q39_4 q39_5 q39_6 v39_0 v39_1 hm hW hl
            have hm_39 := fun (_ : Unit) => hm
            clear hm
            refine x_iload hx hb hl 3 rfl dX11_laysCosts_39 ?_
            refine x_iload_n hx hb hl 1 rfl dX11_laysCosts_41 rfl ?_
            refine x_icmp_ge (tgt := 166) hx hb ri4_39 rn dX11_laysCosts_42 (by decide) (fun c2 => ?_) (fun c2 => ?_)
            · skip
              rw [eQ]
              exact x_vret hx hb hr hlk hW ⟨hF_39, ⟨q39_0, q39_1, q39_2, trivial⟩, fun t t1 t2 => by rw [v39_1 t t1 t2, show (i4_39).toNat = n.toNat from by omega]⟩ dX11_laysCosts_166
            refine x_iconst hx hb dX11_laysCosts_45 ?_
            refine lv_istore (lv' := [(5, .int (xJ 0)), (0, .ref (h0 + 268)), (2, .int (xJ n)), (3, .int (xJ b)), (4, .int (xJ i4_39))]) hx hb dX11_laysCosts_46 hl (by decide) rfl (fun ls hl => ?_)
            have L48 : ∀ (fu : Nat) (i5_48 : Int) (s_48 : xS) (H : Heap) (locs : List Loc) (ls : Array Slot), (xR i5_48) → (xFr (fun k => k = 296) s0 s_48) → (IMn s_48) → (IMk s_48) → (IMo s_48) → (s_48 268 8 = s0 268 8) → (s_48 268 58 = s0 268 58) → (s_48 268 17 = s0 268 17) → (s_48 268 48 = s0 268 48) → (0 ≤ i5_48 ∧ i5_48 ≤ 100) → (zdQ 1000000000 (s_48 296) K9 a (i4_39).toNat (4 * i5_48)) → (100 - i5_48).toNat < fu → xW D g h0 s H locs s_48 → lv_has ls 8 [(0, .ref (h0 + 268)), (2, .int (xJ n)), (3, .int (xJ b)), (4, .int (xJ i4_39)), (5, .int (xJ i5_48))] → W p l e { frames := 3, cells := 0, slots := 0, locals := 66 } s m args below meth c H locs 0 0 Q (F0 m 48 ls []) := by
              intro fu
              induction fu with
              | zero => intro i5_48 s_48 H locs ls ri5_48 hF_48 q48_0 q48_1 q48_2 q48_3 q48_4 q48_5 q48_6 v48_0 v48_1 hm; exact absurd hm (Nat.not_lt_zero _)
              | succ fu ih48 =>
                intro i5_48 s_48 H locs ls ri5_48 hF_48 q48_0 q48_1 q48_2 q48_3 q48_4 q48_5 q48_6 v48_0 v48_1 hm hW hl
                have hm_48 := fun (_ : Unit) => hm
                clear hm
                refine x_iload hx hb hl 4 rfl dX11_laysCosts_48 ?_
                refine x_bipush hx hb dX11_laysCosts_50 (by decide) ?_
                refine x_icmp_ge (tgt := 160) hx hb ri5_48 (by decide) dX11_laysCosts_52 (by decide) (fun c3 => ?_) (fun c3 => ?_)
                · skip
                  refine x_iinc (lv' := [(4, .int (xJ (i4_39 + 1))), (0, .ref (h0 + 268)), (2, .int (xJ n)), (3, .int (xJ b)), (5, .int (xJ i5_48))]) hx hb hl 3 rfl dX11_laysCosts_160 (by decide) rfl (fun ls hl => ?_)
                  refine lv_goto (tgt := 39) hx hb dX11_laysCosts_163 (by decide) ?_
                  exact ih39 (i4_39 + 1) s_48 H locs ls (by omega) hF_48 q48_0 q48_1 q48_2 q48_3 q48_4 q48_5 q48_6 (by omega) (by have z := v48_1.fin (by omega) (by decide) (by omega); rw [show (i4_39 + 1).toNat = i4_39.toNat + 1 from by omega]; exact z) (by have hm := hm_39 (); omega) hW (lv_sub hl [1, 2, 3, 0] rfl)
                refine x_aload_n hx hb hl 0 rfl dX11_laysCosts_55 rfl ?_
                refine x_get (j := 45) (v := .ref (h0 + 296)) hx hb hown hT hE hW cls_X11 (Or.inl (by decide)) (so_268 h0 g _) (by decide) rfl wq1230 dX11_laysCosts_56 ?_
                refine x_iload hx hb hl 4 rfl dX11_laysCosts_59 ?_
                refine x_iald hx hb hE hW (Or.inl (by decide)) (sa_296 h0 g _) (by omega) (by decide) dX11_laysCosts_61 ?_
                refine x_rd hW (fun x4 ex4 rx4 => ?_)
                have V61 : x4 = s_48 296 i5_48 := ex4
                refine x_iload hx hb hl 3 rfl dX11_laysCosts_62 ?_
                refine x_icmp_eq (tgt := 70) hx hb rx4 ri4_39 dX11_laysCosts_64 (by decide) (fun c5 => ?_) (fun c5 => ?_)
                · skip
                  refine x_iconst hx hb dX11_laysCosts_70 ?_
                  have D61 : zds K9 a (i4_39).toNat i5_48 = ((i4_39.toNat : Nat) : Int) := (v48_1.at_ (by decide) (by omega) (by omega)).mp (by omega)
                  refine lv_istore (lv' := [(6, .int (xJ 0)), (0, .ref (h0 + 268)), (2, .int (xJ n)), (3, .int (xJ b)), (4, .int (xJ i4_39)), (5, .int (xJ i5_48))]) hx hb dX11_laysCosts_71 hl (by decide) rfl (fun ls hl => ?_)
                  have L73 : ∀ (fu : Nat) (i6_73 : Int) (s_73 : xS) (H : Heap) (locs : List Loc) (ls : Array Slot), (xR i6_73) → (xFr (fun k => k = 296) s0 s_73) → (IMn s_73) → (IMk s_73) → (IMo s_73) → (s_73 268 8 = s0 268 8) → (s_73 268 58 = s0 268 58) → (s_73 268 17 = s0 268 17) → (s_73 268 48 = s0 268 48) → (0 ≤ i6_73 ∧ i6_73 ≤ 8 ∧ i6_73 % 2 = 0) → (zdQ 1000000000 (s_73 296) K9 a (i4_39).toNat (4 * i5_48 + i6_73 / 2)) → (8 - i6_73).toNat < fu → xW D g h0 s H locs s_73 → lv_has ls 8 [(0, .ref (h0 + 268)), (2, .int (xJ n)), (3, .int (xJ b)), (4, .int (xJ i4_39)), (5, .int (xJ i5_48)), (6, .int (xJ i6_73))] → W p l e { frames := 3, cells := 0, slots := 0, locals := 66 } s m args below meth c H locs 0 0 Q (F0 m 73 ls []) := by
                    intro fu
                    induction fu with
                    | zero => intro i6_73 s_73 H locs ls ri6_73 hF_73 q73_0 q73_1 q73_2 q73_3 q73_4 q73_5 q73_6 v73_0 v73_1 hm; exact absurd hm (Nat.not_lt_zero _)
                    | succ fu ih73 =>
                      intro i6_73 s_73 H locs ls ri6_73 hF_73 q73_0 q73_1 q73_2 q73_3 q73_4 q73_5 q73_6 v73_0 v73_1 hm hW hl
                      have hm_73 := fun (_ : Unit) => hm
                      clear hm
                      have m73 : (4 * i5_48 + i6_73 / 2) / 4 = i5_48 ∧ 2 * ((4 * i5_48 + i6_73 / 2) % 4) = i6_73 ∨ i6_73 = 8 := by omega
                      refine x_iload hx hb hl 5 rfl dX11_laysCosts_73 ?_
                      refine x_bipush hx hb dX11_laysCosts_75 (by decide) ?_
                      refine x_icmp_ge (tgt := 154) hx hb ri6_73 (by decide) dX11_laysCosts_77 (by decide) (fun c6 => ?_) (fun c6 => ?_)
                      · skip
                        refine x_iinc (lv' := [(5, .int (xJ (i5_48 + 1))), (0, .ref (h0 + 268)), (2, .int (xJ n)), (3, .int (xJ b)), (4, .int (xJ i4_39)), (6, .int (xJ i6_73))]) hx hb hl 4 rfl dX11_laysCosts_154 (by decide) rfl (fun ls hl => ?_)
                        refine lv_goto (tgt := 48) hx hb dX11_laysCosts_157 (by decide) ?_
                        exact ih48 (i5_48 + 1) s_73 H locs ls (by omega) hF_73 q73_0 q73_1 q73_2 q73_3 q73_4 q73_5 q73_6 (by omega) (by
                            first
                              | (rw [show 4 * (i5_48 + 1) = 4 * i5_48 + i6_73 / 2 from by omega]; exact v73_1)
                              | exact v48_1.four (by decide) (by omega) (by omega) (by rw [← V61]; omega) (by omega)) (by have hm := hm_48 (); omega) hW (lv_sub hl [1, 2, 3, 4, 0] rfl)
                      refine x_iload hx hb hl 4 rfl dX11_laysCosts_80 ?_
                      refine x_iload hx hb hl 5 rfl dX11_laysCosts_82 ?_
                      refine x_goi (x_runS (As := [.int (xJ i5_48), .int (xJ i6_73)]) hx hb hml hown hT hE hW hl.1 cf_X11_beside wq1554 wq1553 (c_X11_besideJ l D g T h0 s_73 hW.2.1 i5_48 ri5_48 i6_73 ri6_73 (by omega)) ⟨rfl, rfl, ⟨by decide, by decide⟩, ⟨by decide, by decide⟩⟩ rfl rfl (Nat.le_of_ble_eq_true rfl) dX11_laysCosts_84) hW (fun x7 s8 H locs rx7 hp9 hW => ?_)
                      obtain ⟨es8, hp9⟩ := hp9
                      subst es8
                      have ghp9 := hp9
                      have m73 := m73.resolve_right (by omega)
                      have T84 : x7 = zbe ((4 * i5_48 + i6_73 / 2) / 4) (2 * ((4 * i5_48 + i6_73 / 2) % 4)) := by rw [m73.1, m73.2]; exact ghp9
                      have R84 := zbe_r i5_48 i6_73
                      rw [← show x7 = zbe i5_48 i6_73 from ghp9] at R84
                      refine lv_istore (lv' := [(7, .int (xJ x7)), (0, .ref (h0 + 268)), (2, .int (xJ n)), (3, .int (xJ b)), (4, .int (xJ i4_39)), (5, .int (xJ i5_48)), (6, .int (xJ i6_73))]) hx hb dX11_laysCosts_87 hl (by decide) rfl (fun ls hl => ?_)
                      refine x_iload hx hb hl 0 rfl dX11_laysCosts_89 ?_
                      refine x_iconst hx hb dX11_laysCosts_91 ?_
                      refine x_icmp_eq (tgt := 145) hx hb rx7 (by decide) dX11_laysCosts_92 (by decide) (fun c10 => ?_) (fun c10 => ?_)
                      · skip
                        refine x_iload hx hb hl 6 rfl dX11_laysCosts_145 ?_
                        refine x_iconst hx hb dX11_laysCosts_147 ?_
                        refine x_iadd hx hb dX11_laysCosts_148 ?_
                        refine x_nm (fun x11 ex11 => ?_)
                        refine lv_istore (lv' := [(6, .int (xJ x11)), (7, .int (xJ x7)), (0, .ref (h0 + 268)), (2, .int (xJ n)), (3, .int (xJ b)), (4, .int (xJ i4_39)), (5, .int (xJ i5_48))]) hx hb dX11_laysCosts_149 hl (by decide) rfl (fun ls hl => ?_)
                        refine lv_goto (tgt := 73) hx hb dX11_laysCosts_151 (by decide) ?_
                        exact ih73 x11 s_73 H locs ls (by omega) hF_73 q73_0 q73_1 q73_2 q73_3 q73_4 q73_5 q73_6 (by omega) (by
                            first
                              | exact v73_1.set (by decide) (by omega) (by omega) (by omega) T84 (by omega) (by omega) (by rw [m73.1]; exact D61) (by omega) (by rw [E144, xU_xud]; congr 1; omega)
                              | exact v73_1.skip (by omega) (fun c1 c2 c3 => by rw [← T84] at c2 c3 ⊢; omega)) (by have hm := hm_73 (); omega) hW (lv_sub hl [2, 3, 4, 5, 6, 0] rfl)
                      refine x_aload_n hx hb hl 1 rfl dX11_laysCosts_95 rfl ?_
                      refine x_get (j := 45) (v := .ref (h0 + 296)) hx hb hown hT hE hW cls_X11 (Or.inl (by decide)) (so_268 h0 g _) (by decide) rfl wq1230 dX11_laysCosts_96 ?_
                      refine x_iload hx hb hl 0 rfl dX11_laysCosts_99 ?_
                      refine x_iald hx hb hE hW (Or.inl (by decide)) (sa_296 h0 g _) (by omega) (by decide) dX11_laysCosts_101 ?_
                      refine x_rd hW (fun x12 ex12 rx12 => ?_)
                      have V101 : x12 = s_73 296 x7 := ex12
                      refine lv_ldcw (v := xJ 1000000000) hx hb hown (hT _ wq1622) dX11_laysCosts_102 ?_
                      refine x_icmp_ne (tgt := 145) hx hb rx12 (by decide) dX11_laysCosts_105 (by decide) (fun c13 => ?_) (fun c13 => ?_)
                      · skip
                        refine x_iload hx hb hl 6 rfl dX11_laysCosts_145 ?_
                        refine x_iconst hx hb dX11_laysCosts_147 ?_
                        refine x_iadd hx hb dX11_laysCosts_148 ?_
                        refine x_nm (fun x14 ex14 => ?_)
                        refine lv_istore (lv' := [(6, .int (xJ x14)), (7, .int (xJ x7)), (0, .ref (h0 + 268)), (2, .int (xJ n)), (3, .int (xJ b)), (4, .int (xJ i4_39)), (5, .int (xJ i5_48))]) hx hb dX11_laysCosts_149 hl (by decide) rfl (fun ls hl => ?_)
                        refine lv_goto (tgt := 73) hx hb dX11_laysCosts_151 (by decide) ?_
                        exact ih73 x14 s_73 H locs ls (by omega) hF_73 q73_0 q73_1 q73_2 q73_3 q73_4 q73_5 q73_6 (by omega) (by
                            first
                              | exact v73_1.set (by decide) (by omega) (by omega) (by omega) T84 (by omega) (by omega) (by rw [m73.1]; exact D61) (by omega) (by rw [E144, xU_xud]; congr 1; omega)
                              | exact v73_1.skip (by omega) (fun c1 c2 c3 => by rw [← T84] at c2 c3 ⊢; omega)) (by have hm := hm_73 (); omega) hW (lv_sub hl [2, 3, 4, 5, 6, 0] rfl)
                      refine x_aload_n hx hb hl 1 rfl dX11_laysCosts_108 rfl ?_
                      refine x_get (j := 3) (v := .ref (h0 + 272)) hx hb hown hT hE hW cls_X11 (Or.inl (by decide)) (so_268 h0 g _) (by decide) rfl wq1188 dX11_laysCosts_109 ?_
                      refine x_iload hx hb hl 0 rfl dX11_laysCosts_112 ?_
                      refine x_iald hx hb hE hW (Or.inl (by decide)) (sa_272 h0 g _) (by omega) (by decide) dX11_laysCosts_114 ?_
                      refine x_rd hW (fun x15 ex15 rx15 => ?_)
                      have V114 : x15 = K9 x7 := by
                        rw [ex15, hF_73 272 (by first | decide | omega)]
                        exact (hK _ (by omega) (by omega)).1
                      refine x_iconst hx hb dX11_laysCosts_115 ?_
                      refine x_icmp_eq (tgt := 145) hx hb rx15 (by decide) dX11_laysCosts_116 (by decide) (fun c16 => ?_) (fun c16 => ?_)
                      · skip
                        refine x_iload hx hb hl 6 rfl dX11_laysCosts_145 ?_
                        refine x_iconst hx hb dX11_laysCosts_147 ?_
                        refine x_iadd hx hb dX11_laysCosts_148 ?_
                        refine x_nm (fun x17 ex17 => ?_)
                        refine lv_istore (lv' := [(6, .int (xJ x17)), (7, .int (xJ x7)), (0, .ref (h0 + 268)), (2, .int (xJ n)), (3, .int (xJ b)), (4, .int (xJ i4_39)), (5, .int (xJ i5_48))]) hx hb dX11_laysCosts_149 hl (by decide) rfl (fun ls hl => ?_)
                        refine lv_goto (tgt := 73) hx hb dX11_laysCosts_151 (by decide) ?_
                        exact ih73 x17 s_73 H locs ls (by omega) hF_73 q73_0 q73_1 q73_2 q73_3 q73_4 q73_5 q73_6 (by omega) (by
                            first
                              | exact v73_1.set (by decide) (by omega) (by omega) (by omega) T84 (by omega) (by omega) (by rw [m73.1]; exact D61) (by omega) (by rw [E144, xU_xud]; congr 1; omega)
                              | exact v73_1.skip (by omega) (fun c1 c2 c3 => by rw [← T84] at c2 c3 ⊢; omega)) (by have hm := hm_73 (); omega) hW (lv_sub hl [2, 3, 4, 5, 6, 0] rfl)
                      refine x_iload_n hx hb hl 3 rfl dX11_laysCosts_119 rfl ?_
                      refine x_if_eq (tgt := 134) hx hb rb dX11_laysCosts_120 (by decide) (fun c18 => ?_) (fun c18 => False.elim (by omega))
                      refine x_aload_n hx hb hl 1 rfl dX11_laysCosts_134 rfl ?_
                      refine x_get (j := 45) (v := .ref (h0 + 296)) hx hb hown hT hE hW cls_X11 (Or.inl (by decide)) (so_268 h0 g _) (by decide) rfl wq1230 dX11_laysCosts_135 ?_
                      refine x_iload hx hb hl 0 rfl dX11_laysCosts_138 ?_
                      refine x_iload hx hb hl 4 rfl dX11_laysCosts_140 ?_
                      refine x_iconst hx hb dX11_laysCosts_142 ?_
                      refine x_iadd hx hb dX11_laysCosts_143 ?_
                      refine x_iast hx hb hE hW (by decide) (fun σ => sa_296 h0 g σ) (by omega) (by decide) (by omega) dX11_laysCosts_144 (fun H locs s19 es19 hW => ?_)
                      have q20 : IMn s19 := by rw [es19]; exact IMn_o (by unfold suIMn; first | decide | omega) q73_0
                      have q21 : IMk s19 := by rw [es19]; exact IMk_o (by unfold suIMk; first | decide | omega) q73_1
                      have q22 : IMo s19 := by rw [es19]; exact IMo_o (by unfold suIMo; first | decide | omega) q73_2
                      have q23 : s19 268 8 = s0 268 8 := (show s19 268 8 = s_73 268 8 from by rw [es19, xU_k _ _ _ (by first | decide | omega)]).trans q73_3
                      have q24 : s19 268 58 = s0 268 58 := (show s19 268 58 = s_73 268 58 from by rw [es19, xU_k _ _ _ (by first | decide | omega)]).trans q73_4
                      have q25 : s19 268 17 = s0 268 17 := (show s19 268 17 = s_73 268 17 from by rw [es19, xU_k _ _ _ (by first | decide | omega)]).trans q73_5
                      have q26 : s19 268 48 = s0 268 48 := (show s19 268 48 = s_73 268 48 from by rw [es19, xU_k _ _ _ (by first | decide | omega)]).trans q73_6
                      have hF27 := hF_73.put es19 (by omega)
                      have E144 := es19
                      refine x_iload hx hb hl 6 rfl dX11_laysCosts_145 ?_
                      refine x_iconst hx hb dX11_laysCosts_147 ?_
                      refine x_iadd hx hb dX11_laysCosts_148 ?_
                      refine x_nm (fun x28 ex28 => ?_)
                      refine lv_istore (lv' := [(6, .int (xJ x28)), (7, .int (xJ x7)), (0, .ref (h0 + 268)), (2, .int (xJ n)), (3, .int (xJ b)), (4, .int (xJ i4_39)), (5, .int (xJ i5_48))]) hx hb dX11_laysCosts_149 hl (by decide) rfl (fun ls hl => ?_)
                      refine lv_goto (tgt := 73) hx hb dX11_laysCosts_151 (by decide) ?_
                      exact ih73 x28 s19 H locs ls (by omega) hF27 q20 q21 q22 q23 q24 q25 q26 (by omega) (by
                          first
                            | exact v73_1.set (by decide) (by omega) (by omega) (by omega) T84 (by omega) (by omega) (by rw [m73.1]; exact D61) (by omega) (by rw [E144, xU_xud]; congr 1; omega)
                            | exact v73_1.skip (by omega) (fun c1 c2 c3 => by rw [← T84] at c2 c3 ⊢; omega)) (by have hm := hm_73 (); omega) hW (lv_sub hl [2, 3, 4, 5, 6, 0] rfl)
                  exact L73 ((8 - 0 : Int).toNat + 1) 0 s_48 H locs ls (by decide) hF_48 q48_0 q48_1 q48_2 q48_3 q48_4 q48_5 q48_6 (by omega) (by rw [show 4 * i5_48 + 0 / 2 = 4 * i5_48 from by omega]; exact v48_1) (Nat.lt_succ_self _) hW (lv_sub hl [1, 2, 3, 4, 5, 0] rfl)
                refine lv_goto (tgt := 154) hx hb dX11_laysCosts_67 (by decide) ?_
                refine x_iinc (lv' := [(5, .int (xJ (i5_48 + 1))), (0, .ref (h0 + 268)), (2, .int (xJ n)), (3, .int (xJ b)), (4, .int (xJ i4_39))]) hx hb hl 4 rfl dX11_laysCosts_154 (by decide) rfl (fun ls hl => ?_)
                refine lv_goto (tgt := 48) hx hb dX11_laysCosts_157 (by decide) ?_
                exact ih48 (i5_48 + 1) s_48 H locs ls (by omega) hF_48 q48_0 q48_1 q48_2 q48_3 q48_4 q48_5 q48_6 (by omega) (by
                    first
                      | (rw [show 4 * (i5_48 + 1) = 4 * i5_48 + i6_73 / 2 from by omega]; exact v73_1)
                      | exact v48_1.four (by decide) (by omega) (by omega) (by rw [← V61]; omega) (by omega)) (by have hm := hm_48 (); omega) hW (lv_sub hl [1, 2, 3, 4, 0] rfl)
            exact L48 ((100 - 0 : Int).toNat + 1) 0 s_39 H locs ls (by decide) hF_39 q39_0 q39_1 q39_2 q39_3 q39_4 q39_5 q39_6 (by omega) (zdQ.new v39_1 (by omega)) (Nat.lt_succ_self _) hW (lv_sub hl [1, 2, 3, 4, 0] rfl)
        exact L39 ((n - 0 : Int).toNat + 1) 0 s_3 H locs ls (by decide) hF_3 q3_0 q3_1 q3_2 q3_3 q3_4 q3_5 q3_6 (by omega) (zdQ_0 (fun t t1 t2 => v3_1 t t1 (by omega))) (Nat.lt_succ_self _) hW (lv_sub hl [1, 3, 4, 0] rfl)
      refine x_aload_n hx hb hl 0 rfl dX11_laysCosts_10 rfl ?_
      refine x_get (j := 45) (v := .ref (h0 + 296)) hx hb hown hT hE hW cls_X11 (Or.inl (by decide)) (so_268 h0 g _) (by decide) rfl wq1230 dX11_laysCosts_11 ?_
      refine x_iload hx hb hl 4 rfl dX11_laysCosts_14 ?_
      refine x_iload hx hb hl 4 rfl dX11_laysCosts_16 ?_
      refine x_iload_n hx hb hl 1 rfl dX11_laysCosts_18 rfl ?_
      refine x_icmp_ne (tgt := 26) hx hb ri4_3 ra dX11_laysCosts_19 (by decide) (fun c29 => ?_) (fun c29 => ?_)
      · skip
        refine lv_ldcw (v := xJ 1000000000) hx hb hown (hT _ wq1622) dX11_laysCosts_26 ?_
        refine x_iast hx hb hE hW (by decide) (fun σ => sa_296 h0 g σ) (by omega) (by decide) (by decide) dX11_laysCosts_29 (fun H locs s30 es30 hW => ?_)
        have q31 : IMn s30 := by rw [es30]; exact IMn_o (by unfold suIMn; first | decide | omega) q3_0
        have q32 : IMk s30 := by rw [es30]; exact IMk_o (by unfold suIMk; first | decide | omega) q3_1
        have q33 : IMo s30 := by rw [es30]; exact IMo_o (by unfold suIMo; first | decide | omega) q3_2
        have q34 : s30 268 8 = s0 268 8 := (show s30 268 8 = s_3 268 8 from by rw [es30, xU_k _ _ _ (by first | decide | omega)]).trans q3_3
        have q35 : s30 268 58 = s0 268 58 := (show s30 268 58 = s_3 268 58 from by rw [es30, xU_k _ _ _ (by first | decide | omega)]).trans q3_4
        have q36 : s30 268 17 = s0 268 17 := (show s30 268 17 = s_3 268 17 from by rw [es30, xU_k _ _ _ (by first | decide | omega)]).trans q3_5
        have q37 : s30 268 48 = s0 268 48 := (show s30 268 48 = s_3 268 48 from by rw [es30, xU_k _ _ _ (by first | decide | omega)]).trans q3_6
        have hF38 := hF_3.put es30 (by omega)
        have E29 := es30
        refine x_iinc (lv' := [(4, .int (xJ (i4_3 + 1))), (0, .ref (h0 + 268)), (1, .int (xJ a)), (2, .int (xJ n)), (3, .int (xJ b))]) hx hb hl 4 rfl dX11_laysCosts_30 (by decide) rfl (fun ls hl => ?_)
        refine lv_goto (tgt := 3) hx hb dX11_laysCosts_33 (by decide) ?_
        exact ih3 (i4_3 + 1) s30 H locs ls (by omega) hF38 q31 q32 q33 q34 q35 q36 q37 (by omega) (fun t t1 t2 => by
            rw [E29, xU_xud]
            by_cases h : t = i4_3
            · subst h; rw [xud_s]; omega
            · rw [xud_o _ _ h]; exact v3_1 t t1 (by omega)) (by have hm := hm_3 (); omega) hW (lv_sub hl [1, 2, 3, 4, 0] rfl)
      refine x_iconst hx hb dX11_laysCosts_22 ?_
      refine lv_goto (tgt := 29) hx hb dX11_laysCosts_23 (by decide) ?_
      refine x_iast hx hb hE hW (by decide) (fun σ => sa_296 h0 g σ) (by omega) (by decide) (by decide) dX11_laysCosts_29 (fun H locs s39 es39 hW => ?_)
      have q40 : IMn s39 := by rw [es39]; exact IMn_o (by unfold suIMn; first | decide | omega) q3_0
      have q41 : IMk s39 := by rw [es39]; exact IMk_o (by unfold suIMk; first | decide | omega) q3_1
      have q42 : IMo s39 := by rw [es39]; exact IMo_o (by unfold suIMo; first | decide | omega) q3_2
      have q43 : s39 268 8 = s0 268 8 := (show s39 268 8 = s_3 268 8 from by rw [es39, xU_k _ _ _ (by first | decide | omega)]).trans q3_3
      have q44 : s39 268 58 = s0 268 58 := (show s39 268 58 = s_3 268 58 from by rw [es39, xU_k _ _ _ (by first | decide | omega)]).trans q3_4
      have q45 : s39 268 17 = s0 268 17 := (show s39 268 17 = s_3 268 17 from by rw [es39, xU_k _ _ _ (by first | decide | omega)]).trans q3_5
      have q46 : s39 268 48 = s0 268 48 := (show s39 268 48 = s_3 268 48 from by rw [es39, xU_k _ _ _ (by first | decide | omega)]).trans q3_6
      have hF47 := hF_3.put es39 (by omega)
      have E29 := es39
      refine x_iinc (lv' := [(4, .int (xJ (i4_3 + 1))), (0, .ref (h0 + 268)), (1, .int (xJ a)), (2, .int (xJ n)), (3, .int (xJ b))]) hx hb hl 4 rfl dX11_laysCosts_30 (by decide) rfl (fun ls hl => ?_)
      refine lv_goto (tgt := 3) hx hb dX11_laysCosts_33 (by decide) ?_
      exact ih3 (i4_3 + 1) s39 H locs ls (by omega) hF47 q40 q41 q42 q43 q44 q45 q46 (by omega) (fun t t1 t2 => by
            rw [E29, xU_xud]
            by_cases h : t = i4_3
            · subst h; rw [xud_s]; omega
            · rw [xud_o _ _ h]; exact v3_1 t t1 (by omega)) (by have hm := hm_3 (); omega) hW (lv_sub hl [1, 2, 3, 4, 0] rfl)
  exact L3 ((100 - 0 : Int).toNat + 1) 0 s0 H locs ls (by decide) hF p0 p1 p2 k268_8 k268_58 k268_17 k268_48 (by omega) (fun t t1 t2 => absurd t2 (by omega)) (Nat.lt_succ_self _) hW (lv_sub hl [1, 2, 3, 4, 0] rfl)

set_option maxHeartbeats 4000000 in
set_option maxRecDepth 100000 in
theorem c_X11_laysOrderF (l : Launch) (D : va_G) (g : xG) (T : Nat × Nat × Nat) (h0 : Nat) (s0 : xS) (hσ : xRR s0) (q9 : zLaw) (K9 : Int → Int) (hok : zLok q9) (hlr : zLR s0 q9) (hK : ∀ t : Int, 0 ≤ t → t < 100 → s0 272 t = K9 t ∧ 0 ≤ K9 t ∧ K9 t ≤ 3) (p0 : IMn s0) (p1 : IMk s0) (p2 : IMo s0) : Met l yX11_laysOrder (xws yX11_laysOrder cX11_laysOrder 4 (some .int)) { frames := 4, cells := 0, slots := 0, locals := 96 } (xP [.ref (h0 + 268)] D g T h0 s0) (xQi D g h0 (fun r τ => xFr (fun k => k = 293 ∨ k = 294 ∨ k = 297 ∨ k = 298) s0 τ ∧ (((IMn τ) ∧ (IMk τ) ∧ (IMo τ) ∧ True) ∧ ((0 ≤ r ∧ r ≤ 10) ∧ zls (τ 297) 0 r.toNat = zlu K9 q9 (zYr s0) (s0 268 48) 1000000000 10)))) 0 0 (xA h0) := by
  refine x_met hσ (by decide) (Nat.le_of_ble_eq_true rfl) ?_
  intro p e s m args below meth c hx hb hr hml hown hT hlk hnm hE hW ls hl
  have hl : lv_has ls 4 [(0, .ref (h0 + 268))] := hl
  obtain ⟨Q, eQ⟩ : ∃ Q, Q = MQ below (xQi D g h0 (fun r τ => xFr (fun k => k = 293 ∨ k = 294 ∨ k = 297 ∨ k = 298) s0 τ ∧ (((IMn τ) ∧ (IMk τ) ∧ (IMo τ) ∧ True) ∧ ((0 ≤ r ∧ r ≤ 10) ∧ zls (τ 297) 0 r.toNat = zlu K9 q9 (zYr s0) (s0 268 48) 1000000000 10)))) args s 0 0 (xA h0) := ⟨_, rfl⟩
  rw [← eQ]
  generalize hHe : ([] : List Loc) = locs at hW ⊢
  obtain ⟨H, eH⟩ : ∃ H, H = s.heap := ⟨_, rfl⟩
  rw [← eH] at hW ⊢
  have hF : xFr (fun k => k = 293 ∨ k = 294 ∨ k = 297 ∨ k = 298) s0 s0 := xFr.rf
  have k268_8 : s0 268 8 = s0 268 8 := rfl
  have k268_58 : s0 268 58 = s0 268 58 := rfl
  have k268_17 : s0 268 17 = s0 268 17 := rfl
  have k268_48 : s0 268 48 = s0 268 48 := rfl
  refine x_iconst hx hb dX11_laysOrder_0 ?_
  refine lv_istore_n (lv' := [(1, .int (xJ 0)), (0, .ref (h0 + 268))]) hx hb dX11_laysOrder_1 rfl hl (by decide) rfl (fun ls hl => ?_)
  refine x_iconst hx hb dX11_laysOrder_2 ?_
  refine lv_istore_n (lv' := [(2, .int (xJ 0)), (1, .int (xJ 0)), (0, .ref (h0 + 268))]) hx hb dX11_laysOrder_3 rfl hl (by decide) rfl (fun ls hl => ?_)
  have L4 : ∀ (fu : Nat) (i1_4 : Int) (i2_4 : Int) (s_4 : xS) (H : Heap) (locs : List Loc) (ls : Array Slot), (xR i1_4) → (xR i2_4) → (xFr (fun k => k = 293 ∨ k = 294 ∨ k = 297 ∨ k = 298) s0 s_4) → (IMn s_4) → (IMk s_4) → (IMo s_4) → (s_4 268 8 = s0 268 8) → (s_4 268 58 = s0 268 58) → (s_4 268 17 = s0 268 17) → (s_4 268 48 = s0 268 48) → (0 ≤ i2_4 ∧ i2_4 ≤ 10) → (0 ≤ i1_4 ∧ i1_4 ≤ i2_4) → (zls (s_4 297) 0 (i1_4).toNat = zlu K9 q9 (zYr s0) (s0 268 48) 1000000000 (i2_4).toNat) → (∀ k : Int, 0 ≤ k → k < i1_4 → 0 ≤ s_4 297 k ∧ s_4 297 k < i2_4 ∧ s_4 298 (s_4 297 k) = zrq K9 q9 (zYr s0) (s0 268 48) 1000000000 (s_4 297 k)) → (10 - i2_4).toNat < fu → xW D g h0 s H locs s_4 → lv_has ls 4 [(0, .ref (h0 + 268)), (1, .int (xJ i1_4)), (2, .int (xJ i2_4))] → W p l e { frames := 4, cells := 0, slots := 0, locals := 96 } s m args below meth c H locs 0 0 Q (F0 m 4 ls []) := by
    intro fu
    induction fu with
    | zero => intro i1_4 i2_4 s_4 H locs ls ri1_4 ri2_4 hF_4 q4_0 q4_1 q4_2 q4_3 q4_4 q4_5 q4_6 v4_0 v4_1 v4_2 v4_3 hm; exact absurd hm (Nat.not_lt_zero _)
    | succ fu ih4 =>
      intro i1_4 i2_4 s_4 H locs ls ri1_4 ri2_4 hF_4 q4_0 q4_1 q4_2 q4_3 q4_4 q4_5 q4_6 v4_0 v4_1 v4_2 v4_3 hm hW hl
      have hm_4 := fun (_ : Unit) => hm
      clear hm
      refine x_iload_n hx hb hl 2 rfl dX11_laysOrder_4 rfl ?_
      refine x_bipush hx hb dX11_laysOrder_5 (by decide) ?_
      refine x_icmp_ge (tgt := 117) hx hb ri2_4 (by decide) dX11_laysOrder_7 (by decide) (fun c1 => ?_) (fun c1 => ?_)
      · skip
        refine x_iload_n hx hb hl 1 rfl dX11_laysOrder_117 rfl ?_
        rw [eQ]
        exact x_iret hx hb hr hlk hW ri1_4 ⟨hF_4, ⟨q4_0, q4_1, q4_2, trivial⟩, ⟨by omega, by rw [v4_2, show (i2_4).toNat = 10 from by omega]⟩⟩ dX11_laysOrder_118
      refine x_aload_n hx hb hl 0 rfl dX11_laysOrder_10 rfl ?_
      refine x_iload_n hx hb hl 2 rfl dX11_laysOrder_11 rfl ?_
      refine x_goi (x_runV (As := [.int (xJ i2_4)]) hx hb hml hown hT hE hW hl.1 (Or.inl (by decide)) (so_268 h0 g _) rfl cf_X11_owes wq1620 wq147 wq1618 (c_X11_owesF l D g T h0 s_4 hW.2.1 i2_4 ri2_4 (by omega) q4_0 q4_1 q4_2) ⟨rfl, rfl, ⟨by decide, by decide⟩, ⟨by decide, by decide⟩⟩ rfl rfl (Nat.le_of_ble_eq_true rfl) dX11_laysOrder_12) hW (fun x2 s3 H locs rx2 hp4 hW => ?_)
      obtain ⟨es3, hp4⟩ := hp4
      subst es3
      have ghp4 := hp4
      have H12 := ghp4
      have Y12 : zYr s_4 = (zYr s0) := zYr_f (hF_4 269 (by first | decide | omega)) (hF_4 268 (by first | decide | omega))
      rw [Y12] at H12
      have W12 : x2 = 1 → zOw (zYr s0) i2_4 := fun h => (H12.resolve_right (fun q => by omega)).2
      have W12n : x2 = 0 → ¬ zOw (zYr s0) i2_4 := fun h => (H12.resolve_left (fun q => by omega)).2
      refine x_if_ne (tgt := 21) hx hb rx2 dX11_laysOrder_15 (by decide) (fun c5 => ?_) (fun c5 => ?_)
      · skip
        refine x_aload_n hx hb hl 0 rfl dX11_laysOrder_21 rfl ?_
        have W12 := W12 (by omega)
        refine x_get (j := 47) (v := .ref (h0 + 298)) hx hb hown hT hE hW cls_X11 (Or.inl (by decide)) (so_268 h0 g _) (by decide) rfl wq1232 dX11_laysOrder_22 ?_
        refine x_iload_n hx hb hl 2 rfl dX11_laysOrder_25 rfl ?_
        refine x_iload_n hx hb hl 2 rfl dX11_laysOrder_26 rfl ?_
        refine x_aload_n hx hb hl 0 rfl dX11_laysOrder_27 rfl ?_
        refine x_get (j := 48) (v := .int (xJ (s_4 268 48))) hx hb hown hT hE hW cls_X11 (Or.inl (by decide)) (so_268 h0 g _) (by decide) rfl wq1233 dX11_laysOrder_28 ?_
        refine x_rd hW (fun x6 ex6 rx6 => ?_)
        have fx6 : x6 = s0 268 48 := ex6.trans q4_6
        have V28 : x6 = s0 268 48 := by rw [ex6, hF_4 268 (by first | decide | omega)]
        have J50 : ∀ (t0_50 : Int) (s_50 : xS) (H : Heap) (locs : List Loc) (ls : Array Slot), (xR t0_50) → (xFr (fun k => k = 293 ∨ k = 294 ∨ k = 297 ∨ k = 298) s0 s_50) → (IMn s_50) → (IMk s_50) → (IMo s_50) → (s_50 268 8 = s0 268 8) → (s_50 268 58 = s0 268 58) → (s_50 268 17 = s0 268 17) → (s_50 268 48 = s0 268 48) → (t0_50 = zrq K9 q9 (zYr s0) (s0 268 48) 1000000000 i2_4) → (zOw (zYr s0) i2_4) → (s_50 297 = s_4 297 ∧ s_50 298 = s_4 298) → xW D g h0 s H locs s_50 → lv_has ls 4 [(0, .ref (h0 + 268)), (1, .int (xJ i1_4)), (2, .int (xJ i2_4))] → W p l e { frames := 4, cells := 0, slots := 0, locals := 96 } s m args below meth c H locs 0 0 Q (F0 m 50 ls [.int (xJ t0_50), .int (xJ i2_4), .ref (h0 + 298)]) := by
          intro t0_50 s_50 H locs ls rt0_50 hF_50 q50_0 q50_1 q50_2 q50_3 q50_4 q50_5 q50_6 v50_0 v50_1 v50_2 hW hl
          refine x_iast hx hb hE hW (by decide) (fun σ => sa_298 h0 g σ) (by omega) (by decide) rt0_50 dX11_laysOrder_50 (fun H locs s7 es7 hW => ?_)
          have q8 : IMn s7 := by rw [es7]; exact IMn_o (by unfold suIMn; first | decide | omega) q50_0
          have q10 : IMk s7 := by rw [es7]; exact IMk_o (by unfold suIMk; first | decide | omega) q50_1
          have q11 : IMo s7 := by rw [es7]; exact IMo_o (by unfold suIMo; first | decide | omega) q50_2
          have q12 : s7 268 8 = s0 268 8 := (show s7 268 8 = s_50 268 8 from by rw [es7, xU_k _ _ _ (by first | decide | omega)]).trans q50_3
          have q13 : s7 268 58 = s0 268 58 := (show s7 268 58 = s_50 268 58 from by rw [es7, xU_k _ _ _ (by first | decide | omega)]).trans q50_4
          have q14 : s7 268 17 = s0 268 17 := (show s7 268 17 = s_50 268 17 from by rw [es7, xU_k _ _ _ (by first | decide | omega)]).trans q50_5
          have q15 : s7 268 48 = s0 268 48 := (show s7 268 48 = s_50 268 48 from by rw [es7, xU_k _ _ _ (by first | decide | omega)]).trans q50_6
          have hF16 := hF_50.put es7 (by omega)
          have E50 := es7
          refine x_iload_n hx hb hl 1 rfl dX11_laysOrder_51 rfl ?_
          refine lv_istore_n (lv' := [(3, .int (xJ i1_4)), (0, .ref (h0 + 268)), (1, .int (xJ i1_4)), (2, .int (xJ i2_4))]) hx hb dX11_laysOrder_52 rfl hl (by decide) rfl (fun ls hl => ?_)
          have L53 : ∀ (fu : Nat) (i3_53 : Int) (s_53 : xS) (H : Heap) (locs : List Loc) (ls : Array Slot), (xR i3_53) → (xFr (fun k => k = 293 ∨ k = 294 ∨ k = 297 ∨ k = 298) s0 s_53) → (IMn s_53) → (IMk s_53) → (IMo s_53) → (s_53 268 8 = s0 268 8) → (s_53 268 58 = s0 268 58) → (s_53 268 17 = s0 268 17) → (s_53 268 48 = s0 268 48) → (0 ≤ i3_53 ∧ i3_53 ≤ i1_4) → (zIN (zrq K9 q9 (zYr s0) (s0 268 48) 1000000000) i2_4 (zls (s_4 297) 0 (i1_4).toNat) (s_53 297) i1_4 i3_53) → (s_53 298 i2_4 = t0_50) → (∀ k : Int, 0 ≤ k → k < i3_53 → 0 ≤ s_53 297 k ∧ s_53 297 k < i2_4 ∧ s_53 298 (s_53 297 k) = zrq K9 q9 (zYr s0) (s0 268 48) 1000000000 (s_53 297 k)) → (∀ k : Int, i3_53 < k → k ≤ i1_4 → 0 ≤ s_53 297 k ∧ s_53 297 k < i2_4 ∧ s_53 298 (s_53 297 k) = zrq K9 q9 (zYr s0) (s0 268 48) 1000000000 (s_53 297 k)) → (i3_53).toNat < fu → xW D g h0 s H locs s_53 → lv_has ls 4 [(0, .ref (h0 + 268)), (1, .int (xJ i1_4)), (2, .int (xJ i2_4)), (3, .int (xJ i3_53))] → W p l e { frames := 4, cells := 0, slots := 0, locals := 96 } s m args below meth c H locs 0 0 Q (F0 m 53 ls []) := by
            intro fu
            induction fu with
            | zero => intro i3_53 s_53 H locs ls ri3_53 hF_53 q53_0 q53_1 q53_2 q53_3 q53_4 q53_5 q53_6 v53_0 v53_1 v53_2 v53_3 v53_4 hm; exact absurd hm (Nat.not_lt_zero _)
            | succ fu ih53 =>
              intro i3_53 s_53 H locs ls ri3_53 hF_53 q53_0 q53_1 q53_2 q53_3 q53_4 q53_5 q53_6 v53_0 v53_1 v53_2 v53_3 v53_4 hm hW hl
              have hm_53 := fun (_ : Unit) => hm
              clear hm
              refine x_iload_n hx hb hl 3 rfl dX11_laysOrder_53 rfl ?_
              refine x_if_le (tgt := 100) hx hb ri3_53 dX11_laysOrder_54 (by decide) (fun c17 => ?_) (fun c17 => ?_)
              · skip
                refine x_aload_n hx hb hl 0 rfl dX11_laysOrder_100 rfl ?_
                refine x_get (j := 46) (v := .ref (h0 + 297)) hx hb hown hT hE hW cls_X11 (Or.inl (by decide)) (so_268 h0 g _) (by decide) rfl wq1231 dX11_laysOrder_101 ?_
                refine x_iload_n hx hb hl 3 rfl dX11_laysOrder_104 rfl ?_
                refine x_iload_n hx hb hl 2 rfl dX11_laysOrder_105 rfl ?_
                refine x_iast hx hb hE hW (by decide) (fun σ => sa_297 h0 g σ) (by omega) (by decide) ri2_4 dX11_laysOrder_106 (fun H locs s18 es18 hW => ?_)
                have q19 : IMn s18 := by rw [es18]; exact IMn_o (by unfold suIMn; first | decide | omega) q53_0
                have q20 : IMk s18 := by rw [es18]; exact IMk_o (by unfold suIMk; first | decide | omega) q53_1
                have q21 : IMo s18 := by rw [es18]; exact IMo_297 q53_2 (by omega)
                have q22 : s18 268 8 = s0 268 8 := (show s18 268 8 = s_53 268 8 from by rw [es18, xU_k _ _ _ (by first | decide | omega)]).trans q53_3
                have q23 : s18 268 58 = s0 268 58 := (show s18 268 58 = s_53 268 58 from by rw [es18, xU_k _ _ _ (by first | decide | omega)]).trans q53_4
                have q24 : s18 268 17 = s0 268 17 := (show s18 268 17 = s_53 268 17 from by rw [es18, xU_k _ _ _ (by first | decide | omega)]).trans q53_5
                have q25 : s18 268 48 = s0 268 48 := (show s18 268 48 = s_53 268 48 from by rw [es18, xU_k _ _ _ (by first | decide | omega)]).trans q53_6
                have hF26 := hF_53.put es18 (by omega)
                have E106 := es18
                refine x_iload_n hx hb hl 1 rfl dX11_laysOrder_107 rfl ?_
                refine x_iconst hx hb dX11_laysOrder_108 ?_
                refine x_iadd hx hb dX11_laysOrder_109 ?_
                refine x_nm (fun x27 ex27 => ?_)
                refine lv_istore_n (lv' := [(1, .int (xJ x27)), (0, .ref (h0 + 268)), (2, .int (xJ i2_4)), (3, .int (xJ i3_53))]) hx hb dX11_laysOrder_110 rfl hl (by decide) rfl (fun ls hl => ?_)
                refine x_iinc (lv' := [(2, .int (xJ (i2_4 + 1))), (1, .int (xJ x27)), (0, .ref (h0 + 268)), (3, .int (xJ i3_53))]) hx hb hl 2 rfl dX11_laysOrder_111 (by decide) rfl (fun ls hl => ?_)
                refine lv_goto (tgt := 4) hx hb dX11_laysOrder_114 (by decide) ?_
                exact ih4 x27 (i2_4 + 1) s18 H locs ls (by omega) (by omega) hF26 q19 q20 q21 q22 q23 q24 q25 (by omega) (by omega) (by
                    rw [show (i2_4 + 1).toNat = i2_4.toNat + 1 from by omega]
                    first
                      | (rw [zlu_n (i := i2_4) (by omega) W12n]
                         exact v4_2)
                      | (rw [zlu_y (i := i2_4) (by omega) v50_1, ← v4_2]
                         exact v53_1.fin v53_0 (by first | exact Or.inl (by omega) | exact Or.inr (by rw [← (v53_3 _ (by omega) (by omega)).2.2, ← V68, ← V69, ← v50_0, ← v53_2, ← V75]; omega)) (by rw [E106, xU_xud]) (by omega))) (by
                    first
                      | exact fun k k1 k2 => by have z := v4_3 k k1 k2; exact ⟨z.1, by omega, z.2.2⟩
                      | (intro k k1 k2
                         rw [E106, xU_xud, xU_k _ _ _ (show 298 ≠ 297 from by decide)]
                         by_cases h : k = i3_53
                         · subst h
                           rw [xud_s]
                           exact ⟨by omega, by omega, v53_2.trans v50_0⟩
                         · rw [xud_o _ _ h]
                           by_cases h2 : k < i3_53
                           · have z := v53_3 k k1 h2; exact ⟨z.1, by omega, z.2.2⟩
                           · have z := v53_4 k (by omega) (by omega); exact ⟨z.1, by omega, z.2.2⟩)) (by have hm := hm_4 (); omega) hW (lv_sub hl [2, 1, 0] rfl)
              refine x_aload_n hx hb hl 0 rfl dX11_laysOrder_57 rfl ?_
              refine x_get (j := 47) (v := .ref (h0 + 298)) hx hb hown hT hE hW cls_X11 (Or.inl (by decide)) (so_268 h0 g _) (by decide) rfl wq1232 dX11_laysOrder_58 ?_
              refine x_aload_n hx hb hl 0 rfl dX11_laysOrder_61 rfl ?_
              refine x_get (j := 46) (v := .ref (h0 + 297)) hx hb hown hT hE hW cls_X11 (Or.inl (by decide)) (so_268 h0 g _) (by decide) rfl wq1231 dX11_laysOrder_62 ?_
              refine x_iload_n hx hb hl 3 rfl dX11_laysOrder_65 rfl ?_
              refine x_iconst hx hb dX11_laysOrder_66 ?_
              refine x_isub hx hb dX11_laysOrder_67 ?_
              refine x_iald hx hb hE hW (Or.inl (by decide)) (sa_297 h0 g _) (by omega) (by decide) dX11_laysOrder_68 ?_
              refine x_rd hW (fun x28 ex28 rx28 => ?_)
              have bx28 : 0 ≤ x28 ∧ x28 ≤ 9 := by rw [ex28]; exact IMo.a q53_2 _ (by omega) (by omega)
              have V68 : x28 = s_53 297 (i3_53 - 1) := ex28
              have B68 := v53_3 (i3_53 - 1) (by omega) (by omega)
              rw [← V68] at B68
              refine x_iald hx hb hE hW (Or.inl (by decide)) (sa_298 h0 g _) (by omega) (by decide) dX11_laysOrder_69 ?_
              refine x_rd hW (fun x29 ex29 rx29 => ?_)
              have V69 := ex29
              refine x_aload_n hx hb hl 0 rfl dX11_laysOrder_70 rfl ?_
              refine x_get (j := 47) (v := .ref (h0 + 298)) hx hb hown hT hE hW cls_X11 (Or.inl (by decide)) (so_268 h0 g _) (by decide) rfl wq1232 dX11_laysOrder_71 ?_
              refine x_iload_n hx hb hl 2 rfl dX11_laysOrder_74 rfl ?_
              refine x_iald hx hb hE hW (Or.inl (by decide)) (sa_298 h0 g _) (by omega) (by decide) dX11_laysOrder_75 ?_
              refine x_rd hW (fun x30 ex30 rx30 => ?_)
              have V75 : x30 = s_53 298 i2_4 := ex30
              refine x_icmp_ge (tgt := 100) hx hb rx29 rx30 dX11_laysOrder_76 (by decide) (fun c31 => ?_) (fun c31 => ?_)
              · skip
                refine x_aload_n hx hb hl 0 rfl dX11_laysOrder_100 rfl ?_
                refine x_get (j := 46) (v := .ref (h0 + 297)) hx hb hown hT hE hW cls_X11 (Or.inl (by decide)) (so_268 h0 g _) (by decide) rfl wq1231 dX11_laysOrder_101 ?_
                refine x_iload_n hx hb hl 3 rfl dX11_laysOrder_104 rfl ?_
                refine x_iload_n hx hb hl 2 rfl dX11_laysOrder_105 rfl ?_
                refine x_iast hx hb hE hW (by decide) (fun σ => sa_297 h0 g σ) (by omega) (by decide) ri2_4 dX11_laysOrder_106 (fun H locs s32 es32 hW => ?_)
                have q33 : IMn s32 := by rw [es32]; exact IMn_o (by unfold suIMn; first | decide | omega) q53_0
                have q34 : IMk s32 := by rw [es32]; exact IMk_o (by unfold suIMk; first | decide | omega) q53_1
                have q35 : IMo s32 := by rw [es32]; exact IMo_297 q53_2 (by omega)
                have q36 : s32 268 8 = s0 268 8 := (show s32 268 8 = s_53 268 8 from by rw [es32, xU_k _ _ _ (by first | decide | omega)]).trans q53_3
                have q37 : s32 268 58 = s0 268 58 := (show s32 268 58 = s_53 268 58 from by rw [es32, xU_k _ _ _ (by first | decide | omega)]).trans q53_4
                have q38 : s32 268 17 = s0 268 17 := (show s32 268 17 = s_53 268 17 from by rw [es32, xU_k _ _ _ (by first | decide | omega)]).trans q53_5
                have q39 : s32 268 48 = s0 268 48 := (show s32 268 48 = s_53 268 48 from by rw [es32, xU_k _ _ _ (by first | decide | omega)]).trans q53_6
                have hF40 := hF_53.put es32 (by omega)
                have E106 := es32
                refine x_iload_n hx hb hl 1 rfl dX11_laysOrder_107 rfl ?_
                refine x_iconst hx hb dX11_laysOrder_108 ?_
                refine x_iadd hx hb dX11_laysOrder_109 ?_
                refine x_nm (fun x41 ex41 => ?_)
                refine lv_istore_n (lv' := [(1, .int (xJ x41)), (0, .ref (h0 + 268)), (2, .int (xJ i2_4)), (3, .int (xJ i3_53))]) hx hb dX11_laysOrder_110 rfl hl (by decide) rfl (fun ls hl => ?_)
                refine x_iinc (lv' := [(2, .int (xJ (i2_4 + 1))), (1, .int (xJ x41)), (0, .ref (h0 + 268)), (3, .int (xJ i3_53))]) hx hb hl 2 rfl dX11_laysOrder_111 (by decide) rfl (fun ls hl => ?_)
                refine lv_goto (tgt := 4) hx hb dX11_laysOrder_114 (by decide) ?_
                exact ih4 x41 (i2_4 + 1) s32 H locs ls (by omega) (by omega) hF40 q33 q34 q35 q36 q37 q38 q39 (by omega) (by omega) (by
                    rw [show (i2_4 + 1).toNat = i2_4.toNat + 1 from by omega]
                    first
                      | (rw [zlu_n (i := i2_4) (by omega) W12n]
                         exact v4_2)
                      | (rw [zlu_y (i := i2_4) (by omega) v50_1, ← v4_2]
                         exact v53_1.fin v53_0 (by first | exact Or.inl (by omega) | exact Or.inr (by rw [← (v53_3 _ (by omega) (by omega)).2.2, ← V68, ← V69, ← v50_0, ← v53_2, ← V75]; omega)) (by rw [E106, xU_xud]) (by omega))) (by
                    first
                      | exact fun k k1 k2 => by have z := v4_3 k k1 k2; exact ⟨z.1, by omega, z.2.2⟩
                      | (intro k k1 k2
                         rw [E106, xU_xud, xU_k _ _ _ (show 298 ≠ 297 from by decide)]
                         by_cases h : k = i3_53
                         · subst h
                           rw [xud_s]
                           exact ⟨by omega, by omega, v53_2.trans v50_0⟩
                         · rw [xud_o _ _ h]
                           by_cases h2 : k < i3_53
                           · have z := v53_3 k k1 h2; exact ⟨z.1, by omega, z.2.2⟩
                           · have z := v53_4 k (by omega) (by omega); exact ⟨z.1, by omega, z.2.2⟩)) (by have hm := hm_4 (); omega) hW (lv_sub hl [2, 1, 0] rfl)
              refine x_aload_n hx hb hl 0 rfl dX11_laysOrder_79 rfl ?_
              refine x_get (j := 46) (v := .ref (h0 + 297)) hx hb hown hT hE hW cls_X11 (Or.inl (by decide)) (so_268 h0 g _) (by decide) rfl wq1231 dX11_laysOrder_80 ?_
              refine x_iload_n hx hb hl 3 rfl dX11_laysOrder_83 rfl ?_
              refine x_aload_n hx hb hl 0 rfl dX11_laysOrder_84 rfl ?_
              refine x_get (j := 46) (v := .ref (h0 + 297)) hx hb hown hT hE hW cls_X11 (Or.inl (by decide)) (so_268 h0 g _) (by decide) rfl wq1231 dX11_laysOrder_85 ?_
              refine x_iload_n hx hb hl 3 rfl dX11_laysOrder_88 rfl ?_
              refine x_iconst hx hb dX11_laysOrder_89 ?_
              refine x_isub hx hb dX11_laysOrder_90 ?_
              refine x_iald hx hb hE hW (Or.inl (by decide)) (sa_297 h0 g _) (by omega) (by decide) dX11_laysOrder_91 ?_
              refine x_rd hW (fun x42 ex42 rx42 => ?_)
              have bx42 : 0 ≤ x42 ∧ x42 ≤ 9 := by rw [ex42]; exact IMo.a q53_2 _ (by omega) (by omega)
              have V91 : x42 = s_53 297 (i3_53 - 1) := ex42
              refine x_iast hx hb hE hW (by decide) (fun σ => sa_297 h0 g σ) (by omega) (by decide) rx42 dX11_laysOrder_92 (fun H locs s43 es43 hW => ?_)
              have q44 : IMn s43 := by rw [es43]; exact IMn_o (by unfold suIMn; first | decide | omega) q53_0
              have q45 : IMk s43 := by rw [es43]; exact IMk_o (by unfold suIMk; first | decide | omega) q53_1
              have q46 : IMo s43 := by rw [es43]; exact IMo_297 q53_2 (by omega)
              have q47 : s43 268 8 = s0 268 8 := (show s43 268 8 = s_53 268 8 from by rw [es43, xU_k _ _ _ (by first | decide | omega)]).trans q53_3
              have q48 : s43 268 58 = s0 268 58 := (show s43 268 58 = s_53 268 58 from by rw [es43, xU_k _ _ _ (by first | decide | omega)]).trans q53_4
              have q49 : s43 268 17 = s0 268 17 := (show s43 268 17 = s_53 268 17 from by rw [es43, xU_k _ _ _ (by first | decide | omega)]).trans q53_5
              have q50 : s43 268 48 = s0 268 48 := (show s43 268 48 = s_53 268 48 from by rw [es43, xU_k _ _ _ (by first | decide | omega)]).trans q53_6
              have hF51 := hF_53.put es43 (by omega)
              have E92 := es43
              refine x_iload_n hx hb hl 3 rfl dX11_laysOrder_93 rfl ?_
              refine x_iconst hx hb dX11_laysOrder_94 ?_
              refine x_isub hx hb dX11_laysOrder_95 ?_
              refine x_nm (fun x52 ex52 => ?_)
              refine lv_istore_n (lv' := [(3, .int (xJ x52)), (0, .ref (h0 + 268)), (1, .int (xJ i1_4)), (2, .int (xJ i2_4))]) hx hb dX11_laysOrder_96 rfl hl (by decide) rfl (fun ls hl => ?_)
              refine lv_goto (tgt := 53) hx hb dX11_laysOrder_97 (by decide) ?_
              exact ih53 x52 s43 H locs ls (by omega) hF51 q44 q45 q46 q47 q48 q49 q50 (by omega) (v53_1.step (by omega) (by rw [← (v53_3 _ (by omega) (by omega)).2.2, ← V68, ← V69, ← v50_0, ← v53_2, ← V75]; omega) (by rw [E92, xU_xud, V91]) (by omega)) (by rw [E92, xU_k _ _ _ (by first | decide | omega)]; exact v53_2) (fun k k1 k2 => by
                  rw [E92, xU_xud, xU_k _ _ _ (show 298 ≠ 297 from by decide), xud_o _ _ (by omega)]
                  exact v53_3 k k1 (by omega)) (fun k k1 k2 => by
                  rw [E92, xU_xud, xU_k _ _ _ (show 298 ≠ 297 from by decide)]
                  by_cases h : k = i3_53
                  · subst h
                    rw [xud_s, V91]
                    exact v53_3 _ (by omega) (by omega)
                  · rw [xud_o _ _ h]
                    exact v53_4 k (by omega) (by omega)) (by have hm := hm_53 (); omega) hW (lv_sub hl [1, 2, 3, 0] rfl)
          exact L53 ((i1_4 : Int).toNat + 1) i1_4 s7 H locs ls ri1_4 hF16 q8 q10 q11 q12 q13 q14 q15 (by omega) (zIN.new (by rw [E50, xU_k _ _ _ (by first | decide | omega), v50_2.1]) rfl) (by rw [E50, xU_s]) (fun k k1 k2 => by
            have z := v4_3 k k1 k2
            rw [← v50_2.1, ← v50_2.2] at z
            rw [E50, xU_k _ _ _ (show 297 ≠ 298 from by decide), xU_j _ _ (by omega)]
            exact z) (fun k k1 k2 => absurd k1 (by omega)) (Nat.lt_succ_self _) hW (lv_sub hl [1, 2, 3, 0] rfl)
        refine x_icmp_ne (tgt := 40) hx hb ri2_4 rx6 dX11_laysOrder_31 (by decide) (fun c53 => ?_) (fun c53 => ?_)
        · skip
          refine x_aload_n hx hb hl 0 rfl dX11_laysOrder_40 rfl ?_
          refine x_bipush hx hb dX11_laysOrder_41 (by decide) ?_
          refine x_sipush hx hb dX11_laysOrder_43 (by decide) ?_
          refine x_iload_n hx hb hl 2 rfl dX11_laysOrder_46 rfl ?_
          refine x_goi (x_runV (As := [.int (xJ 111), .int (xJ 999), .int (xJ i2_4)]) hx hb hml hown hT hE hW hl.1 (Or.inl (by decide)) (so_268 h0 g _) rfl cf_X11_byFelon wq1625 wq148 wq1623 (c_X11_byFelonF l D g T h0 s_4 hW.2.1 111 (by decide) 999 (by decide) i2_4 ri2_4 q9 K9 (hok) (by first | exact hlr | exact hlr.f (fun k hk => hF_4 k (by omega)) (by omega)) (by first | exact hK | exact fun t t1 t2 => by rw [hF_4 272 (by first | decide | omega)]; exact hK t t1 t2) (by omega) (by rw [hF_4 269 (by first | decide | omega)]; exact ((zOw_r (by omega)).mp W12).1.1) (by decide) (by decide) q4_0 q4_1 q4_2) ⟨rfl, rfl, ⟨by decide, by decide⟩, ⟨by decide, by decide⟩⟩ rfl rfl (Nat.le_of_ble_eq_true rfl) dX11_laysOrder_47) hW (fun x54 s55 H locs rx54 hp56 hW => ?_)
          obtain ⟨fs55, hp56⟩ := hp56
          have hF57 := hF_4.call fs55 (fun k h => by omega)
          have q58 : s55 268 8 = s0 268 8 := (congrFun (fs55 _ (by omega)) _).trans q4_3
          have q59 : s55 268 58 = s0 268 58 := (congrFun (fs55 _ (by omega)) _).trans q4_4
          have q60 : s55 268 17 = s0 268 17 := (congrFun (fs55 _ (by omega)) _).trans q4_5
          have q61 : s55 268 48 = s0 268 48 := (congrFun (fs55 _ (by omega)) _).trans q4_6
          have ghp56 := hp56.2
          have H47 := ghp56
          rw [zYr_f (σ := s0) (τ := s_4) (by first | rfl | exact hF_4 269 (by first | decide | omega)) (by first | rfl | exact hF_4 268 (by first | decide | omega))] at H47
          exact J50 x54 s55 H locs ls rx54 hF57 hp56.1.1 hp56.1.2.1 hp56.1.2.2.1 q58 q59 q60 q61 (by unfold zrq; first | (rw [if_pos (by omega)]) | (rw [if_neg (by omega)]; exact H47)) (W12) (by first | exact ⟨rfl, rfl⟩ | exact ⟨fs55 297 (by first | decide | omega), fs55 298 (by first | decide | omega)⟩) hW (lv_sub hl [0, 1, 2] rfl)
        refine lv_ldcw (v := xJ 1000000000) hx hb hown (hT _ wq1622) dX11_laysOrder_34 ?_
        refine lv_goto (tgt := 50) hx hb dX11_laysOrder_37 (by decide) ?_
        exact J50 1000000000 s_4 H locs ls (by decide) hF_4 q4_0 q4_1 q4_2 q4_3 q4_4 q4_5 q4_6 (by unfold zrq; first | (rw [if_pos (by omega)]) | (rw [if_neg (by omega)]; exact H47)) (W12) (by first | exact ⟨rfl, rfl⟩ | exact ⟨fs_4 297 (by omega), fs_4 298 (by omega)⟩) hW (lv_sub hl [0, 1, 2] rfl)
      refine lv_goto (tgt := 111) hx hb dX11_laysOrder_18 (by decide) ?_
      have W12n := W12n (by omega)
      refine x_iinc (lv' := [(2, .int (xJ (i2_4 + 1))), (0, .ref (h0 + 268)), (1, .int (xJ i1_4))]) hx hb hl 2 rfl dX11_laysOrder_111 (by decide) rfl (fun ls hl => ?_)
      refine lv_goto (tgt := 4) hx hb dX11_laysOrder_114 (by decide) ?_
      exact ih4 i1_4 (i2_4 + 1) s_4 H locs ls ri1_4 (by omega) hF_4 q4_0 q4_1 q4_2 q4_3 q4_4 q4_5 q4_6 (by omega) (by omega) (by
            rw [show (i2_4 + 1).toNat = i2_4.toNat + 1 from by omega]
            first
              | (rw [zlu_n (i := i2_4) (by omega) W12n]
                 exact v4_2)
              | (rw [zlu_y (i := i2_4) (by omega) v50_1, ← v4_2]
                 exact v53_1.fin v53_0 (by first | exact Or.inl (by omega) | exact Or.inr (by rw [← (v53_3 _ (by omega) (by omega)).2.2, ← V68, ← V69, ← v50_0, ← v53_2, ← V75]; omega)) (by rw [E106, xU_xud]) (by omega))) (by
            first
              | exact fun k k1 k2 => by have z := v4_3 k k1 k2; exact ⟨z.1, by omega, z.2.2⟩
              | (intro k k1 k2
                 rw [E106, xU_xud, xU_k _ _ _ (show 298 ≠ 297 from by decide)]
                 by_cases h : k = i3_53
                 · subst h
                   rw [xud_s]
                   exact ⟨by omega, by omega, v53_2.trans v50_0⟩
                 · rw [xud_o _ _ h]
                   by_cases h2 : k < i3_53
                   · have z := v53_3 k k1 h2; exact ⟨z.1, by omega, z.2.2⟩
                   · have z := v53_4 k (by omega) (by omega); exact ⟨z.1, by omega, z.2.2⟩)) (by have hm := hm_4 (); omega) hW (lv_sub hl [1, 2, 0] rfl)
  exact L4 ((10 - 0 : Int).toNat + 1) 0 0 s0 H locs ls (by decide) (by decide) hF p0 p1 p2 k268_8 k268_58 k268_17 k268_48 (by omega) (by omega) (rfl) (fun k k1 k2 => absurd k2 (by omega)) (Nat.lt_succ_self _) hW (lv_sub hl [2, 1, 0] rfl)
set_option maxHeartbeats 4000000 in
set_option maxRecDepth 100000 in
theorem c_X11_findsForF (l : Launch) (D : va_G) (g : xG) (T : Nat × Nat × Nat) (h0 : Nat) (s0 : xS) (hσ : xRR s0) (f : Int) (rf : xR f) (q9 : zLaw) (K9 : Int → Int) (hok : zLok q9) (hlr : zLR s0 q9) (hK : ∀ t : Int, 0 ≤ t → t < 100 → s0 272 t = K9 t ∧ 0 ≤ K9 t ∧ K9 t ≤ 3) (hf : 0 ≤ f ∧ f < 10) (htl : xsh (s0 269 35) f % 2 = 1) (p0 : IMn s0) (p1 : IMk s0) (p2 : IMo s0) : Met l yX11_findsFor (xws yX11_findsFor cX11_findsFor 4 (some .int)) { frames := 4, cells := 0, slots := 0, locals := 96 } (xP [.ref (h0 + 268), .int (xJ f)] D g T h0 s0) (xQi D g h0 (fun r τ => xFr (fun k => k = 293 ∨ k = 294 ∨ k = 296) s0 τ ∧ (((IMn τ) ∧ (IMk τ) ∧ (IMo τ) ∧ True) ∧ (r = zbk K9 (s0 295) (s0 299) (s0 269 (4 + f)) (zvF K9 q9 (zYr s0) 118 3 f).toNat 100 ∧ ∀ t : Int, 0 ≤ t → t < 100 → τ 296 t = zdf 1000000000 (zds K9 (s0 269 (4 + f)) (zvF K9 q9 (zYr s0) 118 3 f).toNat t))))) 0 0 (xA h0) := by
  refine x_met hσ (by decide) (Nat.le_of_ble_eq_true rfl) ?_
  intro p e s m args below meth c hx hb hr hml hown hT hlk hnm hE hW ls hl
  have hl : lv_has ls 4 [(0, .ref (h0 + 268)), (1, .int (xJ f))] := hl
  obtain ⟨Q, eQ⟩ : ∃ Q, Q = MQ below (xQi D g h0 (fun r τ => xFr (fun k => k = 293 ∨ k = 294 ∨ k = 296) s0 τ ∧ (((IMn τ) ∧ (IMk τ) ∧ (IMo τ) ∧ True) ∧ (r = zbk K9 (s0 295) (s0 299) (s0 269 (4 + f)) (zvF K9 q9 (zYr s0) 118 3 f).toNat 100 ∧ ∀ t : Int, 0 ≤ t → t < 100 → τ 296 t = zdf 1000000000 (zds K9 (s0 269 (4 + f)) (zvF K9 q9 (zYr s0) 118 3 f).toNat t))))) args s 0 0 (xA h0) := ⟨_, rfl⟩
  rw [← eQ]
  generalize hHe : ([] : List Loc) = locs at hW ⊢
  obtain ⟨H, eH⟩ : ∃ H, H = s.heap := ⟨_, rfl⟩
  rw [← eH] at hW ⊢
  have hF : xFr (fun k => k = 293 ∨ k = 294 ∨ k = 296) s0 s0 := xFr.rf
  have k268_8 : s0 268 8 = s0 268 8 := rfl
  have k268_58 : s0 268 58 = s0 268 58 := rfl
  have k268_17 : s0 268 17 = s0 268 17 := rfl
  have k268_48 : s0 268 48 = s0 268 48 := rfl
  have hn4 := (IMn.n1 p0).2.2.1 (4 + f) (by omega) (by omega)
  refine x_aload_n hx hb hl 0 rfl dX11_findsFor_0 rfl ?_
  refine x_aload_n hx hb hl 0 rfl dX11_findsFor_1 rfl ?_
  refine x_get (j := 0) (v := .ref (h0 + 269)) hx hb hown hT hE hW cls_X11 (Or.inl (by decide)) (so_268 h0 g _) (by decide) rfl wq1185 dX11_findsFor_2 ?_
  refine x_iconst hx hb dX11_findsFor_5 ?_
  refine x_iload_n hx hb hl 1 rfl dX11_findsFor_6 rfl ?_
  refine x_iadd hx hb dX11_findsFor_7 ?_
  refine x_iald hx hb hE hW (Or.inl (by decide)) (sa_269 h0 g _) (by omega) (by decide) dX11_findsFor_8 ?_
  refine x_rd hW (fun x1 ex1 rx1 => ?_)
  have bx1 : 0 ≤ x1 ∧ x1 ≤ 99 := by rw [ex1]; exact (IMn.n1 p0).2.2.1 _ (by omega) (by omega)
  have V8 : x1 = s0 269 (4 + f) := ex1
  refine x_aload_n hx hb hl 0 rfl dX11_findsFor_9 rfl ?_
  refine x_bipush hx hb dX11_findsFor_10 (by decide) ?_
  refine x_iconst hx hb dX11_findsFor_12 ?_
  refine x_iload_n hx hb hl 1 rfl dX11_findsFor_13 rfl ?_
  refine x_goi (x_runV (As := [.int (xJ 118), .int (xJ 3), .int (xJ f)]) hx hb hml hown hT hE hW hl.1 (Or.inl (by decide)) (so_268 h0 g _) rfl cf_X11_byFelon wq1625 wq148 wq1623 (c_X11_byFelonF l D g T h0 s0 hW.2.1 118 (by decide) 3 (by decide) f rf q9 K9 (hok) (by first | exact hlr | exact hlr.f (fun k hk => hF k (by omega)) (by omega)) (by first | exact hK | exact fun t t1 t2 => by rw [hF 272 (by omega)]; exact hK t t1 t2) (by omega) (by first | exact htl | (rw [hF 269 (by omega)]; exact htl)) (by decide) (by decide) p0 p1 p2) ⟨rfl, rfl, ⟨by decide, by decide⟩, ⟨by decide, by decide⟩⟩ rfl rfl (Nat.le_of_ble_eq_true rfl) dX11_findsFor_14) hW (fun x2 s3 H locs rx2 hp4 hW => ?_)
  obtain ⟨fs3, hp4⟩ := hp4
  have hF5 := hF.call fs3 (fun k h => by omega)
  have q6 : s3 268 8 = s0 268 8 := (congrFun (fs3 _ (by omega)) _).trans k268_8
  have q7 : s3 268 58 = s0 268 58 := (congrFun (fs3 _ (by omega)) _).trans k268_58
  have q8 : s3 268 17 = s0 268 17 := (congrFun (fs3 _ (by omega)) _).trans k268_17
  have q10 : s3 268 48 = s0 268 48 := (congrFun (fs3 _ (by omega)) _).trans k268_48
  have ghp4 := hp4.2
  have R14 := ghp4
  have B14 := zvF_r (K := K9) (q := q9) (Y := (zYr s0)) (kd := 118) (hi := 3) (f := f) (by decide)
  rw [← R14] at B14
  refine x_iconst hx hb dX11_findsFor_17 ?_
  refine x_gov (x_runV (As := [.int (xJ x1), .int (xJ x2), .int (xJ 0)]) hx hb hml hown hT hE hW hl.1 (Or.inl (by decide)) (so_268 h0 g _) rfl cf_X11_laysCosts wq1637 wq151 wq1635 (c_X11_laysCostsF l D g T h0 s3 hW.2.1 x1 rx1 x2 rx2 0 (by decide) K9 (by first | exact hK | exact fun t t1 t2 => by rw [hF5 272 (by first | decide | omega)]; exact hK t t1 t2) (by omega) (B14) (rfl) hp4.1.1 hp4.1.2.1 hp4.1.2.2.1) ⟨rfl, rfl, ⟨by decide, by decide⟩, ⟨by decide, by decide⟩⟩ rfl rfl (Nat.le_of_ble_eq_true rfl) dX11_findsFor_18) hW (fun s12 H locs hp13 hW => ?_)
  obtain ⟨fs12, hp13⟩ := hp13
  have hF14 := hF5.call fs12 (fun k h => by omega)
  have q15 : s12 268 8 = s0 268 8 := (congrFun (fs12 _ (by omega)) _).trans q6
  have q16 : s12 268 58 = s0 268 58 := (congrFun (fs12 _ (by omega)) _).trans q7
  have q17 : s12 268 17 = s0 268 17 := (congrFun (fs12 _ (by omega)) _).trans q8
  have q18 : s12 268 48 = s0 268 48 := (congrFun (fs12 _ (by omega)) _).trans q10
  have ghp13 := hp13.2
  have H18 := ghp13
  rw [V8, R14] at H18
  refine x_iconst hx hb dX11_findsFor_21 ?_
  refine lv_istore_n (lv' := [(2, .int (xJ (-1))), (0, .ref (h0 + 268)), (1, .int (xJ f))]) hx hb dX11_findsFor_22 rfl hl (by decide) rfl (fun ls hl => ?_)
  refine x_iconst hx hb dX11_findsFor_23 ?_
  refine lv_istore_n (lv' := [(3, .int (xJ 0)), (2, .int (xJ (-1))), (0, .ref (h0 + 268)), (1, .int (xJ f))]) hx hb dX11_findsFor_24 rfl hl (by decide) rfl (fun ls hl => ?_)
  have L25 : ∀ (fu : Nat) (i2_25 : Int) (i3_25 : Int) (ls : Array Slot), (xR i2_25) → (xR i3_25) → (0 ≤ i3_25 ∧ i3_25 ≤ 100) → (-1 ≤ i2_25 ∧ i2_25 < 100) → (i2_25 = zbk K9 (s0 295) (s0 299) (s0 269 (4 + f)) (zvF K9 q9 (zYr s0) 118 3 f).toNat (i3_25).toNat) → (100 - i3_25).toNat < fu → lv_has ls 4 [(0, .ref (h0 + 268)), (2, .int (xJ i2_25)), (3, .int (xJ i3_25))] → W p l e { frames := 4, cells := 0, slots := 0, locals := 96 } s m args below meth c H locs 0 0 Q (F0 m 25 ls []) := by
    intro fu
    induction fu with
    | zero => intro i2_25 i3_25 ls ri2_25 ri3_25 v25_0 v25_1 v25_2 hm; exact absurd hm (Nat.not_lt_zero _)
    | succ fu ih25 =>
      intro i2_25 i3_25 ls ri2_25 ri3_25 v25_0 v25_1 v25_2 hm  hl
      have hm_25 := fun (_ : Unit) => hm
      clear hm
      have c25 := zbk_9 (K := K9) (L := s0 295) (T := s0 299) (a := s0 269 (4 + f)) (v := (zvF K9 q9 (zYr s0) 118 3 f).toNat) (n := (i3_25).toNat)
      rw [← v25_2] at c25
      have d25 := H18 i3_25
      refine x_iload_n hx hb hl 2 rfl dX11_findsFor_25 rfl ?_
      refine x_bipush hx hb dX11_findsFor_26 (by decide) ?_
      refine x_icmp_ge (tgt := 89) hx hb ri3_25 (by decide) dX11_findsFor_28 (by decide) (fun c19 => ?_) (fun c19 => ?_)
      · skip
        refine x_iload_n hx hb hl 1 rfl dX11_findsFor_89 rfl ?_
        rw [eQ]
        exact x_iret hx hb hr hlk hW ri2_25 ⟨hF14, ⟨hp13.1.1, hp13.1.2.1, hp13.1.2.2.1, trivial⟩, ⟨by rw [v25_2, show (i3_25).toNat = 100 from by omega], H18⟩⟩ dX11_findsFor_90
      refine x_aload_n hx hb hl 0 rfl dX11_findsFor_31 rfl ?_
      refine x_get (j := 40) (v := .ref (h0 + 295)) hx hb hown hT hE hW cls_X11 (Or.inl (by decide)) (so_268 h0 g _) (by decide) rfl wq1225 dX11_findsFor_32 ?_
      refine x_iload_n hx hb hl 2 rfl dX11_findsFor_35 rfl ?_
      refine x_iald hx hb hE hW (Or.inl (by decide)) (sa_295 h0 g _) (by omega) (by decide) dX11_findsFor_36 ?_
      refine x_rd hW (fun x20 ex20 rx20 => ?_)
      have V36 : x20 = s0 295 i3_25 := by rw [ex20, hF14 295 (by first | decide | omega)]
      have D36 := zdf_c (d25 (by omega) (by omega))
      have Z36 := zds_r K9 (s0 269 (4 + f)) (zvF K9 q9 (zYr s0) 118 3 f).toNat i3_25
      refine x_if_le (tgt := 83) hx hb rx20 dX11_findsFor_37 (by decide) (fun c21 => ?_) (fun c21 => ?_)
      · skip
        refine x_iinc (lv' := [(3, .int (xJ (i3_25 + 1))), (0, .ref (h0 + 268)), (2, .int (xJ i2_25))]) hx hb hl 2 rfl dX11_findsFor_83 (by decide) rfl (fun ls hl => ?_)
        refine lv_goto (tgt := 25) hx hb dX11_findsFor_86 (by decide) ?_
        exact ih25 i2_25 (i3_25 + 1) ls ri2_25 (by omega) (by omega) (by omega) (by
            rw [show (i3_25 + 1).toNat = i3_25.toNat + 1 from by omega]
            refine zbk_s (i := i3_25) (by omega) v25_2 ?_
            first
              | exact Or.inl ⟨⟨by omega, by omega, by omega⟩, by omega, by omega⟩
              | exact Or.inr ⟨fun c => by omega, rfl⟩) (by have hm := hm_25 (); omega)  (lv_sub hl [1, 2, 0] rfl)
      refine x_aload_n hx hb hl 0 rfl dX11_findsFor_40 rfl ?_
      refine x_get (j := 49) (v := .ref (h0 + 299)) hx hb hown hT hE hW cls_X11 (Or.inl (by decide)) (so_268 h0 g _) (by decide) rfl wq1234 dX11_findsFor_41 ?_
      refine x_iload_n hx hb hl 2 rfl dX11_findsFor_44 rfl ?_
      refine x_zald hx hb hE hW (Or.inl (by decide)) (sa_299 h0 g _) (by omega) (by decide) dX11_findsFor_45 ?_
      refine x_rd hW (fun x22 ex22 rx22 => ?_)
      have V45 : x22 = s0 299 i3_25 := by rw [ex22, hF14 299 (by first | decide | omega)]
      refine x_if_ne (tgt := 83) hx hb rx22 dX11_findsFor_46 (by decide) (fun c23 => ?_) (fun c23 => ?_)
      · skip
        refine x_iinc (lv' := [(3, .int (xJ (i3_25 + 1))), (0, .ref (h0 + 268)), (2, .int (xJ i2_25))]) hx hb hl 2 rfl dX11_findsFor_83 (by decide) rfl (fun ls hl => ?_)
        refine lv_goto (tgt := 25) hx hb dX11_findsFor_86 (by decide) ?_
        exact ih25 i2_25 (i3_25 + 1) ls ri2_25 (by omega) (by omega) (by omega) (by
            rw [show (i3_25 + 1).toNat = i3_25.toNat + 1 from by omega]
            refine zbk_s (i := i3_25) (by omega) v25_2 ?_
            first
              | exact Or.inl ⟨⟨by omega, by omega, by omega⟩, by omega, by omega⟩
              | exact Or.inr ⟨fun c => by omega, rfl⟩) (by have hm := hm_25 (); omega)  (lv_sub hl [1, 2, 0] rfl)
      refine x_aload_n hx hb hl 0 rfl dX11_findsFor_49 rfl ?_
      refine x_get (j := 45) (v := .ref (h0 + 296)) hx hb hown hT hE hW cls_X11 (Or.inl (by decide)) (so_268 h0 g _) (by decide) rfl wq1230 dX11_findsFor_50 ?_
      refine x_iload_n hx hb hl 2 rfl dX11_findsFor_53 rfl ?_
      refine x_iald hx hb hE hW (Or.inl (by decide)) (sa_296 h0 g _) (by omega) (by decide) dX11_findsFor_54 ?_
      refine x_rd hW (fun x24 ex24 rx24 => ?_)
      have V54 : x24 = s12 296 i3_25 := ex24
      refine lv_ldcw (v := xJ 1000000000) hx hb hown (hT _ wq1622) dX11_findsFor_55 ?_
      refine x_icmp_ge (tgt := 83) hx hb rx24 (by decide) dX11_findsFor_58 (by decide) (fun c25 => ?_) (fun c25 => ?_)
      · skip
        refine x_iinc (lv' := [(3, .int (xJ (i3_25 + 1))), (0, .ref (h0 + 268)), (2, .int (xJ i2_25))]) hx hb hl 2 rfl dX11_findsFor_83 (by decide) rfl (fun ls hl => ?_)
        refine lv_goto (tgt := 25) hx hb dX11_findsFor_86 (by decide) ?_
        exact ih25 i2_25 (i3_25 + 1) ls ri2_25 (by omega) (by omega) (by omega) (by
            rw [show (i3_25 + 1).toNat = i3_25.toNat + 1 from by omega]
            refine zbk_s (i := i3_25) (by omega) v25_2 ?_
            first
              | exact Or.inl ⟨⟨by omega, by omega, by omega⟩, by omega, by omega⟩
              | exact Or.inr ⟨fun c => by omega, rfl⟩) (by have hm := hm_25 (); omega)  (lv_sub hl [1, 2, 0] rfl)
      refine x_iload_n hx hb hl 1 rfl dX11_findsFor_61 rfl ?_
      refine x_iconst hx hb dX11_findsFor_62 ?_
      refine x_icmp_eq (tgt := 81) hx hb ri2_25 (by decide) dX11_findsFor_63 (by decide) (fun c26 => ?_) (fun c26 => ?_)
      · skip
        refine x_iload_n hx hb hl 2 rfl dX11_findsFor_81 rfl ?_
        refine lv_istore_n (lv' := [(2, .int (xJ i3_25)), (0, .ref (h0 + 268)), (3, .int (xJ i3_25))]) hx hb dX11_findsFor_82 rfl hl (by decide) rfl (fun ls hl => ?_)
        refine x_iinc (lv' := [(3, .int (xJ (i3_25 + 1))), (2, .int (xJ i3_25)), (0, .ref (h0 + 268))]) hx hb hl 2 rfl dX11_findsFor_83 (by decide) rfl (fun ls hl => ?_)
        refine lv_goto (tgt := 25) hx hb dX11_findsFor_86 (by decide) ?_
        exact ih25 i3_25 (i3_25 + 1) ls ri3_25 (by omega) (by omega) (by omega) (by
            rw [show (i3_25 + 1).toNat = i3_25.toNat + 1 from by omega]
            refine zbk_s (i := i3_25) (by omega) v25_2 ?_
            first
              | exact Or.inl ⟨⟨by omega, by omega, by omega⟩, by omega, by omega⟩
              | exact Or.inr ⟨fun c => by omega, rfl⟩) (by have hm := hm_25 (); omega)  (lv_sub hl [2, 1, 0] rfl)
      refine x_aload_n hx hb hl 0 rfl dX11_findsFor_66 rfl ?_
      refine x_get (j := 45) (v := .ref (h0 + 296)) hx hb hown hT hE hW cls_X11 (Or.inl (by decide)) (so_268 h0 g _) (by decide) rfl wq1230 dX11_findsFor_67 ?_
      refine x_iload_n hx hb hl 2 rfl dX11_findsFor_70 rfl ?_
      refine x_iald hx hb hE hW (Or.inl (by decide)) (sa_296 h0 g _) (by omega) (by decide) dX11_findsFor_71 ?_
      refine x_rd hW (fun x27 ex27 rx27 => ?_)
      have V71 : x27 = s12 296 i3_25 := ex27
      refine x_aload_n hx hb hl 0 rfl dX11_findsFor_72 rfl ?_
      refine x_get (j := 45) (v := .ref (h0 + 296)) hx hb hown hT hE hW cls_X11 (Or.inl (by decide)) (so_268 h0 g _) (by decide) rfl wq1230 dX11_findsFor_73 ?_
      refine x_iload_n hx hb hl 1 rfl dX11_findsFor_76 rfl ?_
      refine x_iald hx hb hE hW (Or.inl (by decide)) (sa_296 h0 g _) (by omega) (by decide) dX11_findsFor_77 ?_
      refine x_rd hW (fun x28 ex28 rx28 => ?_)
      have V77 : x28 = s12 296 i2_25 := ex28
      have D77 := zdf_c (H18 i2_25 (by omega) (by omega))
      have Z77 := zds_r K9 (s0 269 (4 + f)) (zvF K9 q9 (zYr s0) 118 3 f).toNat i2_25
      refine x_icmp_ge (tgt := 83) hx hb rx27 rx28 dX11_findsFor_78 (by decide) (fun c29 => ?_) (fun c29 => ?_)
      · skip
        refine x_iinc (lv' := [(3, .int (xJ (i3_25 + 1))), (0, .ref (h0 + 268)), (2, .int (xJ i2_25))]) hx hb hl 2 rfl dX11_findsFor_83 (by decide) rfl (fun ls hl => ?_)
        refine lv_goto (tgt := 25) hx hb dX11_findsFor_86 (by decide) ?_
        exact ih25 i2_25 (i3_25 + 1) ls ri2_25 (by omega) (by omega) (by omega) (by
            rw [show (i3_25 + 1).toNat = i3_25.toNat + 1 from by omega]
            refine zbk_s (i := i3_25) (by omega) v25_2 ?_
            first
              | exact Or.inl ⟨⟨by omega, by omega, by omega⟩, by omega, by omega⟩
              | exact Or.inr ⟨fun c => by omega, rfl⟩) (by have hm := hm_25 (); omega)  (lv_sub hl [1, 2, 0] rfl)
      refine x_iload_n hx hb hl 2 rfl dX11_findsFor_81 rfl ?_
      refine lv_istore_n (lv' := [(2, .int (xJ i3_25)), (0, .ref (h0 + 268)), (3, .int (xJ i3_25))]) hx hb dX11_findsFor_82 rfl hl (by decide) rfl (fun ls hl => ?_)
      refine x_iinc (lv' := [(3, .int (xJ (i3_25 + 1))), (2, .int (xJ i3_25)), (0, .ref (h0 + 268))]) hx hb hl 2 rfl dX11_findsFor_83 (by decide) rfl (fun ls hl => ?_)
      refine lv_goto (tgt := 25) hx hb dX11_findsFor_86 (by decide) ?_
      exact ih25 i3_25 (i3_25 + 1) ls ri3_25 (by omega) (by omega) (by omega) (by
            rw [show (i3_25 + 1).toNat = i3_25.toNat + 1 from by omega]
            refine zbk_s (i := i3_25) (by omega) v25_2 ?_
            first
              | exact Or.inl ⟨⟨by omega, by omega, by omega⟩, by omega, by omega⟩
              | exact Or.inr ⟨fun c => by omega, rfl⟩) (by have hm := hm_25 (); omega)  (lv_sub hl [2, 1, 0] rfl)
  exact L25 ((100 - 0 : Int).toNat + 1) (-1) 0 ls (by decide) (by decide) (by omega) (by omega) (rfl) (Nat.lt_succ_self _)  (lv_sub hl [2, 1, 0] rfl)

set_option maxHeartbeats 4000000 in
set_option maxRecDepth 100000 in
theorem c_X11_servesOfF (l : Launch) (D : va_G) (g : xG) (T : Nat × Nat × Nat) (h0 : Nat) (s0 : xS) (hσ : xRR s0) (f : Int) (rf : xR f) (b : Int) (rb : xR b) (q9 : zLaw) (K9 : Int → Int) (hok : zLok q9) (hlr : zLR s0 q9) (hK : ∀ t : Int, 0 ≤ t → t < 100 → s0 272 t = K9 t ∧ 0 ≤ K9 t ∧ K9 t ≤ 3) (hf : 0 ≤ f ∧ f < 10) (htl : xsh (s0 269 35) f % 2 = 1) (hY : zYq (zYr s0)) (hB : 0 ≤ s0 269 36 ∧ s0 269 36 < 1024) (hLb : ∀ t : Int, 0 ≤ t → t < 100 → 0 ≤ s0 295 t ∧ s0 295 t ≤ 1000) (hsv : 0 ≤ s0 268 41 ∧ s0 268 41 ≤ 100000) (p0 : IMn s0) (p1 : IMk s0) (p2 : IMo s0) : Met l yX11_servesOf (xws yX11_servesOf cX11_servesOf 5 none) { frames := 5, cells := 0, slots := 0, locals := 119 } (xP [.ref (h0 + 268), .int (xJ f), .int (xJ b)] D g T h0 s0) (xQv D g h0 (fun τ => xFr (fun k => k = 268 ∨ k = 269 ∨ k = 293 ∨ k = 294 ∨ k = 296 ∨ k = 299) s0 τ ∧ (((IMn τ) ∧ (IMk τ) ∧ (IMo τ) ∧ (τ 268 8 = s0 268 8) ∧ (τ 268 58 = s0 268 58) ∧ (τ 269 0 = s0 269 0) ∧ (τ 269 1 = s0 269 1) ∧ (τ 269 2 = s0 269 2) ∧ (τ 269 3 = s0 269 3) ∧ (τ 269 34 = s0 269 34) ∧ (τ 269 37 = s0 269 37) ∧ (τ 268 17 = s0 268 17) ∧ (τ 268 48 = s0 268 48) ∧ True) ∧ ((zYr τ, τ 299) = zsv K9 q9 (s0 295) b f (zYr s0, s0 299) ∧ τ 268 41 = s0 268 41 + zYr s0 (14 + f) - zYr τ (14 + f) ∧ (0 ≤ τ 269 36 ∧ τ 269 36 < 1024) ∧ τ 269 35 = s0 269 35 ∧ τ 268 48 = s0 268 48)))) 0 0 (xA h0) := by
  refine x_met hσ (by decide) (Nat.le_of_ble_eq_true rfl) ?_
  intro p e s m args below meth c hx hb hr hml hown hT hlk hnm hE hW ls hl
  have hl : lv_has ls 5 [(0, .ref (h0 + 268)), (1, .int (xJ f)), (2, .int (xJ b))] := hl
  obtain ⟨Q, eQ⟩ : ∃ Q, Q = MQ below (xQv D g h0 (fun τ => xFr (fun k => k = 268 ∨ k = 269 ∨ k = 293 ∨ k = 294 ∨ k = 296 ∨ k = 299) s0 τ ∧ (((IMn τ) ∧ (IMk τ) ∧ (IMo τ) ∧ (τ 268 8 = s0 268 8) ∧ (τ 268 58 = s0 268 58) ∧ (τ 269 0 = s0 269 0) ∧ (τ 269 1 = s0 269 1) ∧ (τ 269 2 = s0 269 2) ∧ (τ 269 3 = s0 269 3) ∧ (τ 269 34 = s0 269 34) ∧ (τ 269 37 = s0 269 37) ∧ (τ 268 17 = s0 268 17) ∧ (τ 268 48 = s0 268 48) ∧ True) ∧ ((zYr τ, τ 299) = zsv K9 q9 (s0 295) b f (zYr s0, s0 299) ∧ τ 268 41 = s0 268 41 + zYr s0 (14 + f) - zYr τ (14 + f) ∧ (0 ≤ τ 269 36 ∧ τ 269 36 < 1024) ∧ τ 269 35 = s0 269 35 ∧ τ 268 48 = s0 268 48)))) args s 0 0 (xA h0) := ⟨_, rfl⟩
  rw [← eQ]
  generalize hHe : ([] : List Loc) = locs at hW ⊢
  obtain ⟨H, eH⟩ : ∃ H, H = s.heap := ⟨_, rfl⟩
  rw [← eH] at hW ⊢
  have hF : xFr (fun k => k = 268 ∨ k = 269 ∨ k = 293 ∨ k = 294 ∨ k = 296 ∨ k = 299) s0 s0 := xFr.rf
  have k268_8 : s0 268 8 = s0 268 8 := rfl
  have k268_58 : s0 268 58 = s0 268 58 := rfl
  have k269_0 : s0 269 0 = s0 269 0 := rfl
  have k269_1 : s0 269 1 = s0 269 1 := rfl
  have k269_2 : s0 269 2 = s0 269 2 := rfl
  have k269_3 : s0 269 3 = s0 269 3 := rfl
  have k269_34 : s0 269 34 = s0 269 34 := rfl
  have k269_37 : s0 269 37 = s0 269 37 := rfl
  have k268_17 : s0 268 17 = s0 268 17 := rfl
  have k268_48 : s0 268 48 = s0 268 48 := rfl
  have k269_37 : s0 269 37 = s0 269 37 := rfl
  have hq9 := hY f hf.1 hf.2
  have hm7 := (IMn.n1 p0).2.2.2.1
  refine x_aload_n hx hb hl 0 rfl dX11_servesOf_0 rfl ?_
  refine x_iload_n hx hb hl 1 rfl dX11_servesOf_1 rfl ?_
  refine x_goi (x_runV (As := [.int (xJ f)]) hx hb hml hown hT hE hW hl.1 (Or.inl (by decide)) (so_268 h0 g _) rfl cf_X11_findsFor wq1633 wq150 wq1631 (c_X11_findsForF l D g T h0 s0 hW.2.1 f rf q9 K9 (hok) (by first | exact hlr | exact hlr.f (fun k hk => hF k (by omega)) (by omega)) (by first | exact hK | exact fun t t1 t2 => by rw [hF 272 (by omega)]; exact hK t t1 t2) (by omega) (by first | exact htl | (rw [hF 269 (by omega)]; exact htl)) p0 p1 p2) ⟨rfl, rfl, ⟨by decide, by decide⟩, ⟨by decide, by decide⟩⟩ rfl rfl (Nat.le_of_ble_eq_true rfl) dX11_servesOf_2) hW (fun x1 s2 H locs rx1 hp3 hW => ?_)
  obtain ⟨fs2, hp3⟩ := hp3
  have hF4 := hF.call fs2 (fun k h => by omega)
  have q5 : s2 268 8 = s0 268 8 := (congrFun (fs2 _ (by omega)) _).trans k268_8
  have q6 : s2 268 58 = s0 268 58 := (congrFun (fs2 _ (by omega)) _).trans k268_58
  have q7 : s2 269 0 = s0 269 0 := (congrFun (fs2 _ (by omega)) _).trans k269_0
  have q8 : s2 269 1 = s0 269 1 := (congrFun (fs2 _ (by omega)) _).trans k269_1
  have q10 : s2 269 2 = s0 269 2 := (congrFun (fs2 _ (by omega)) _).trans k269_2
  have q11 : s2 269 3 = s0 269 3 := (congrFun (fs2 _ (by omega)) _).trans k269_3
  have q12 : s2 269 34 = s0 269 34 := (congrFun (fs2 _ (by omega)) _).trans k269_34
  have q13 : s2 269 37 = s0 269 37 := (congrFun (fs2 _ (by omega)) _).trans k269_37
  have q14 : s2 268 17 = s0 268 17 := (congrFun (fs2 _ (by omega)) _).trans k268_17
  have q15 : s2 268 48 = s0 268 48 := (congrFun (fs2 _ (by omega)) _).trans k268_48
  have ghp3 := hp3.2
  have H2 := ghp3
  have y4 : zYr s0 (4 + f) = s0 269 (4 + f) := by show zYN _ _ _ _ (4 + f) = _; rw [zYN_F hf, if_pos htl]
  have y14 : zYr s0 (14 + f) = s0 269 (14 + f) := by show zYN _ _ _ _ (14 + f) = _; rw [zYN_O hf, if_pos htl]
  have y24 : zYr s0 (24 + f) = s0 269 (24 + f) := by show zYN _ _ _ _ (24 + f) = _; rw [zYN_A hf, if_pos htl]
  rw [← y4] at H2
  obtain ⟨b9, eb9⟩ : ∃ b9, b9 = zbk K9 (s0 295) (s0 299) (zYr s0 (4 + f)) (zvF K9 q9 (zYr s0) 118 3 f).toNat 100 := ⟨_, rfl⟩
  rw [← eb9] at H2
  have r9 := zbk_r (K := K9) (L := s0 295) (T := s0 299) (a := zYr s0 (4 + f)) (v := (zvF K9 q9 (zYr s0) 118 3 f).toNat)
  rw [← eb9] at r9
  have P2 : s2 269 = s0 269 ∧ s2 299 = s0 299 ∧ s2 295 = s0 295 ∧ s2 268 = s0 268 := ⟨fs2 269 (by first | decide | omega), fs2 299 (by first | decide | omega), fs2 295 (by first | decide | omega), fs2 268 (by first | decide | omega)⟩
  refine lv_istore_n (lv' := [(3, .int (xJ x1)), (0, .ref (h0 + 268)), (1, .int (xJ f)), (2, .int (xJ b))]) hx hb dX11_servesOf_5 rfl hl (by decide) rfl (fun ls hl => ?_)
  refine x_iload_n hx hb hl 0 rfl dX11_servesOf_6 rfl ?_
  refine x_iconst hx hb dX11_servesOf_7 ?_
  refine x_icmp_ne (tgt := 48) hx hb rx1 (by decide) dX11_servesOf_8 (by decide) (fun c16 => ?_) (fun c16 => ?_)
  · skip
    refine x_aload_n hx hb hl 1 rfl dX11_servesOf_48 rfl ?_
    refine x_get (j := 49) (v := .ref (h0 + 299)) hx hb hown hT hE hW cls_X11 (Or.inl (by decide)) (so_268 h0 g _) (by decide) rfl wq1234 dX11_servesOf_49 ?_
    refine x_iload_n hx hb hl 0 rfl dX11_servesOf_52 rfl ?_
    refine x_iconst hx hb dX11_servesOf_53 ?_
    refine x_zast hx hb hE hW (by decide) (fun σ => sa_299 h0 g σ) (by omega) (by decide) (by omega) dX11_servesOf_54 (fun H locs s17 es17 hW => ?_)
    have q18 : s17 268 8 = s0 268 8 := (show s17 268 8 = s2 268 8 from by rw [es17, xU_k _ _ _ (by first | decide | omega)]).trans q5
    have q19 : s17 268 58 = s0 268 58 := (show s17 268 58 = s2 268 58 from by rw [es17, xU_k _ _ _ (by first | decide | omega)]).trans q6
    have q20 : s17 269 0 = s0 269 0 := (show s17 269 0 = s2 269 0 from by rw [es17, xU_k _ _ _ (by first | decide | omega)]).trans q7
    have q21 : s17 269 1 = s0 269 1 := (show s17 269 1 = s2 269 1 from by rw [es17, xU_k _ _ _ (by first | decide | omega)]).trans q8
    have q22 : s17 269 2 = s0 269 2 := (show s17 269 2 = s2 269 2 from by rw [es17, xU_k _ _ _ (by first | decide | omega)]).trans q10
    have q23 : s17 269 3 = s0 269 3 := (show s17 269 3 = s2 269 3 from by rw [es17, xU_k _ _ _ (by first | decide | omega)]).trans q11
    have q24 : s17 269 34 = s0 269 34 := (show s17 269 34 = s2 269 34 from by rw [es17, xU_k _ _ _ (by first | decide | omega)]).trans q12
    have q25 : s17 269 37 = s0 269 37 := (show s17 269 37 = s2 269 37 from by rw [es17, xU_k _ _ _ (by first | decide | omega)]).trans q13
    have q26 : s17 268 17 = s0 268 17 := (show s17 268 17 = s2 268 17 from by rw [es17, xU_k _ _ _ (by first | decide | omega)]).trans q14
    have q27 : s17 268 48 = s0 268 48 := (show s17 268 48 = s2 268 48 from by rw [es17, xU_k _ _ _ (by first | decide | omega)]).trans q15
    have q28 : IMn s17 := by rw [es17]; exact IMn_o (by unfold suIMn; first | decide | omega) hp3.1.1
    have q29 : IMk s17 := by rw [es17]; exact IMk_o (by unfold suIMk; first | decide | omega) hp3.1.2.1
    have q30 : IMo s17 := by rw [es17]; exact IMo_o (by unfold suIMo; first | decide | omega) hp3.1.2.2.1
    have hF31 := hF4.put es17 (by omega)
    have E54 := es17
    refine x_aload_n hx hb hl 1 rfl dX11_servesOf_55 rfl ?_
    refine x_aload_n hx hb hl 1 rfl dX11_servesOf_56 rfl ?_
    refine x_get (j := 44) (v := .int (xJ (s17 268 44))) hx hb hown hT hE hW cls_X11 (Or.inl (by decide)) (so_268 h0 g _) (by decide) rfl wq1229 dX11_servesOf_57 ?_
    refine x_rd hW (fun x32 ex32 rx32 => ?_)
    have V57 : x32 = s0 268 44 := by rw [ex32, E54, xU_k _ _ _ (by first | decide | omega), P2.2.2.2]
    refine x_aload_n hx hb hl 1 rfl dX11_servesOf_60 rfl ?_
    refine x_get (j := 45) (v := .ref (h0 + 296)) hx hb hown hT hE hW cls_X11 (Or.inl (by decide)) (so_268 h0 g _) (by decide) rfl wq1230 dX11_servesOf_61 ?_
    refine x_iload_n hx hb hl 0 rfl dX11_servesOf_64 rfl ?_
    refine x_iald hx hb hE hW (Or.inl (by decide)) (sa_296 h0 g _) (by omega) (by decide) dX11_servesOf_65 ?_
    refine x_rd hW (fun x33 ex33 rx33 => ?_)
    have V65 : x33 = zds K9 (zYr s0 (4 + f)) (zvF K9 q9 (zYr s0) 118 3 f).toNat x1 := by
      rw [ex33, E54, xU_k _ _ _ (by first | decide | omega), H2.2 x1 (by omega) (by omega)]
      have z := zbk_9 (K := K9) (L := s0 295) (T := s0 299) (a := zYr s0 (4 + f)) (v := (zvF K9 q9 (zYr s0) 118 3 f).toNat) (n := 100)
      rw [← eb9, ← H2.1] at z
      exact if_neg (z.resolve_left (by omega)).2.2
    refine x_iadd hx hb dX11_servesOf_66 ?_
    refine x_wv (fun x34 ex34 rx34 => ?_)
    have W66 := ex34
    refine x_put (j := 44) hx hb hown hT hE hW cls_X11 (by decide) (fun σ => so_268 h0 g σ) (by decide) (st_X11_44 h0 s17 268 x34) (ln_X11_44 h0 _ _) wq1229 rfl rfl rfl rx34 dX11_servesOf_67 (fun H locs s35 es35 hW => ?_)
    have q36 : s35 268 8 = s0 268 8 := (show s35 268 8 = s17 268 8 from by rw [es35, xU_j _ _ (by decide)]).trans q18
    have q37 : s35 268 58 = s0 268 58 := (show s35 268 58 = s17 268 58 from by rw [es35, xU_j _ _ (by decide)]).trans q19
    have q38 : s35 269 0 = s0 269 0 := (show s35 269 0 = s17 269 0 from by rw [es35, xU_k _ _ _ (by first | decide | omega)]).trans q20
    have q39 : s35 269 1 = s0 269 1 := (show s35 269 1 = s17 269 1 from by rw [es35, xU_k _ _ _ (by first | decide | omega)]).trans q21
    have q40 : s35 269 2 = s0 269 2 := (show s35 269 2 = s17 269 2 from by rw [es35, xU_k _ _ _ (by first | decide | omega)]).trans q22
    have q41 : s35 269 3 = s0 269 3 := (show s35 269 3 = s17 269 3 from by rw [es35, xU_k _ _ _ (by first | decide | omega)]).trans q23
    have q42 : s35 269 34 = s0 269 34 := (show s35 269 34 = s17 269 34 from by rw [es35, xU_k _ _ _ (by first | decide | omega)]).trans q24
    have q43 : s35 269 37 = s0 269 37 := (show s35 269 37 = s17 269 37 from by rw [es35, xU_k _ _ _ (by first | decide | omega)]).trans q25
    have q44 : s35 268 17 = s0 268 17 := (show s35 268 17 = s17 268 17 from by rw [es35, xU_j _ _ (by decide)]).trans q26
    have q45 : s35 268 48 = s0 268 48 := (show s35 268 48 = s17 268 48 from by rw [es35, xU_j _ _ (by decide)]).trans q27
    have q46 : IMn s35 := by rw [es35]; exact IMn_268 q28 (by omega)
    have q47 : IMk s35 := by rw [es35]; exact IMk_268 q29 (by omega)
    have q48 : IMo s35 := by rw [es35]; exact IMo_o (by unfold suIMo; first | decide | omega) q30
    have hF49 := hF31.put es35 (by omega)
    have E67 := es35
    refine x_aload_n hx hb hl 1 rfl dX11_servesOf_70 rfl ?_
    refine x_get (j := 0) (v := .ref (h0 + 269)) hx hb hown hT hE hW cls_X11 (Or.inl (by decide)) (so_268 h0 g _) (by decide) rfl wq1185 dX11_servesOf_71 ?_
    refine x_iconst hx hb dX11_servesOf_74 ?_
    refine x_iload_n hx hb hl 2 rfl dX11_servesOf_75 rfl ?_
    refine x_iadd hx hb dX11_servesOf_76 ?_
    refine x_iload_n hx hb hl 0 rfl dX11_servesOf_77 rfl ?_
    refine x_iast hx hb hE hW (by decide) (fun σ => sa_269 h0 g σ) (by omega) (by decide) rx1 dX11_servesOf_78 (fun H locs s50 es50 hW => ?_)
    have q51 : s50 268 8 = s0 268 8 := (show s50 268 8 = s35 268 8 from by rw [es50, xU_k _ _ _ (by first | decide | omega)]).trans q36
    have q52 : s50 268 58 = s0 268 58 := (show s50 268 58 = s35 268 58 from by rw [es50, xU_k _ _ _ (by first | decide | omega)]).trans q37
    have q53 : s50 269 0 = s0 269 0 := (show s50 269 0 = s35 269 0 from by rw [es50, xU_j _ _ (by omega)]).trans q38
    have q54 : s50 269 1 = s0 269 1 := (show s50 269 1 = s35 269 1 from by rw [es50, xU_j _ _ (by omega)]).trans q39
    have q55 : s50 269 2 = s0 269 2 := (show s50 269 2 = s35 269 2 from by rw [es50, xU_j _ _ (by omega)]).trans q40
    have q56 : s50 269 3 = s0 269 3 := (show s50 269 3 = s35 269 3 from by rw [es50, xU_j _ _ (by omega)]).trans q41
    have q57 : s50 269 34 = s0 269 34 := (show s50 269 34 = s35 269 34 from by rw [es50, xU_j _ _ (by omega)]).trans q42
    have q58 : s50 269 37 = s0 269 37 := (show s50 269 37 = s35 269 37 from by rw [es50, xU_j _ _ (by omega)]).trans q43
    have q59 : s50 268 17 = s0 268 17 := (show s50 268 17 = s35 268 17 from by rw [es50, xU_k _ _ _ (by first | decide | omega)]).trans q44
    have q60 : s50 268 48 = s0 268 48 := (show s50 268 48 = s35 268 48 from by rw [es50, xU_k _ _ _ (by first | decide | omega)]).trans q45
    have q61 : IMn s50 := by rw [es50]; exact IMn_N269 q46 (by omega)
    have q62 : IMk s50 := by rw [es50]; exact IMk_o (by unfold suIMk; first | decide | omega) q47
    have q63 : IMo s50 := by rw [es50]; exact IMo_o (by unfold suIMo; first | decide | omega) q48
    have hF64 := hF49.put es50 (by omega)
    have E78 := es50
    refine x_aload_n hx hb hl 1 rfl dX11_servesOf_79 rfl ?_
    refine x_get (j := 0) (v := .ref (h0 + 269)) hx hb hown hT hE hW cls_X11 (Or.inl (by decide)) (so_268 h0 g _) (by decide) rfl wq1185 dX11_servesOf_80 ?_
    refine x_bipush hx hb dX11_servesOf_83 (by decide) ?_
    refine x_iload_n hx hb hl 2 rfl dX11_servesOf_85 rfl ?_
    refine x_iadd hx hb dX11_servesOf_86 ?_
    refine x_iald hx hb hE hW (Or.inl (by decide)) (sa_269 h0 g _) (by omega) (by decide) dX11_servesOf_87 ?_
    refine x_rd hW (fun x65 ex65 rx65 => ?_)
    have V87 : x65 = zYr s0 (14 + f) := by rw [ex65, E78, xU_xud, xud_o _ _ (by omega), E67, xU_k _ _ _ (by first | decide | omega), E54, xU_k _ _ _ (by first | decide | omega), P2.1, y14]
    refine x_iload_n hx hb hl 3 rfl dX11_servesOf_88 rfl ?_
    have J118 : ∀ (t0_118 : Int) (ls : Array Slot), (xR t0_118) → (t0_118 = (if b ≠ 0 then (if zYr s0 44 % 3 = 0 then 1 else 0) else s0 295 x1)) → (0 ≤ t0_118 ∧ t0_118 ≤ 1000) → lv_has ls 5 [(0, .ref (h0 + 268)), (1, .int (xJ f)), (3, .int (xJ x1))] → W p l e { frames := 5, cells := 0, slots := 0, locals := 119 } s m args below meth c H locs 0 0 Q (F0 m 118 ls [.int (xJ t0_118), .int (xJ x65)]) := by
      intro t0_118 ls rt0_118 v118_0 v118_1  hl
      refine x_goi (x_runS (As := [.int (xJ x65), .int (xJ t0_118)]) hx hb hml hown hT hE hW hl.1 cf_X11_min wq1640 wq1639 (c_X11_min l D g T h0 s50 hW.2.1 x65 rx65 t0_118 rt0_118) ⟨rfl, rfl, ⟨by decide, by decide⟩, ⟨by decide, by decide⟩⟩ rfl rfl (Nat.le_of_ble_eq_true rfl) dX11_servesOf_118) hW (fun x66 s67 H locs rx66 hp68 hW => ?_)
      obtain ⟨es67, hp68⟩ := hp68
      subst es67
      have ghp68 := hp68
      refine lv_istore (lv' := [(4, .int (xJ x66)), (0, .ref (h0 + 268)), (1, .int (xJ f)), (3, .int (xJ x1))]) hx hb dX11_servesOf_121 hl (by decide) rfl (fun ls hl => ?_)
      refine x_aload_n hx hb hl 1 rfl dX11_servesOf_123 rfl ?_
      refine x_get (j := 0) (v := .ref (h0 + 269)) hx hb hown hT hE hW cls_X11 (Or.inl (by decide)) (so_268 h0 g _) (by decide) rfl wq1185 dX11_servesOf_124 ?_
      refine x_bipush hx hb dX11_servesOf_127 (by decide) ?_
      refine x_iload_n hx hb hl 2 rfl dX11_servesOf_129 rfl ?_
      refine x_iadd hx hb dX11_servesOf_130 ?_
      refine x_aload_n hx hb hl 1 rfl dX11_servesOf_131 rfl ?_
      refine x_get (j := 0) (v := .ref (h0 + 269)) hx hb hown hT hE hW cls_X11 (Or.inl (by decide)) (so_268 h0 g _) (by decide) rfl wq1185 dX11_servesOf_132 ?_
      refine x_bipush hx hb dX11_servesOf_135 (by decide) ?_
      refine x_iload_n hx hb hl 2 rfl dX11_servesOf_137 rfl ?_
      refine x_iadd hx hb dX11_servesOf_138 ?_
      refine x_iald hx hb hE hW (Or.inl (by decide)) (sa_269 h0 g _) (by omega) (by decide) dX11_servesOf_139 ?_
      refine x_rd hW (fun x69 ex69 rx69 => ?_)
      have V139 : x69 = zYr s0 (14 + f) := by rw [ex69, E78, xU_xud, xud_o _ _ (by omega), E67, xU_k _ _ _ (by first | decide | omega), E54, xU_k _ _ _ (by first | decide | omega), P2.1, y14]
      refine x_iload hx hb hl 0 rfl dX11_servesOf_140 ?_
      refine x_isub hx hb dX11_servesOf_142 ?_
      refine x_iast hx hb hE hW (by decide) (fun σ => sa_269 h0 g σ) (by omega) (by decide) (by omega) dX11_servesOf_143 (fun H locs s70 es70 hW => ?_)
      have q71 : s70 268 8 = s0 268 8 := (show s70 268 8 = s50 268 8 from by rw [es70, xU_k _ _ _ (by first | decide | omega)]).trans q51
      have q72 : s70 268 58 = s0 268 58 := (show s70 268 58 = s50 268 58 from by rw [es70, xU_k _ _ _ (by first | decide | omega)]).trans q52
      have q73 : s70 269 0 = s0 269 0 := (show s70 269 0 = s50 269 0 from by rw [es70, xU_j _ _ (by omega)]).trans q53
      have q74 : s70 269 1 = s0 269 1 := (show s70 269 1 = s50 269 1 from by rw [es70, xU_j _ _ (by omega)]).trans q54
      have q75 : s70 269 2 = s0 269 2 := (show s70 269 2 = s50 269 2 from by rw [es70, xU_j _ _ (by omega)]).trans q55
      have q76 : s70 269 3 = s0 269 3 := (show s70 269 3 = s50 269 3 from by rw [es70, xU_j _ _ (by omega)]).trans q56
      have q77 : s70 269 34 = s0 269 34 := (show s70 269 34 = s50 269 34 from by rw [es70, xU_j _ _ (by omega)]).trans q57
      have q78 : s70 269 37 = s0 269 37 := (show s70 269 37 = s50 269 37 from by rw [es70, xU_j _ _ (by omega)]).trans q58
      have q79 : s70 268 17 = s0 268 17 := (show s70 268 17 = s50 268 17 from by rw [es70, xU_k _ _ _ (by first | decide | omega)]).trans q59
      have q80 : s70 268 48 = s0 268 48 := (show s70 268 48 = s50 268 48 from by rw [es70, xU_k _ _ _ (by first | decide | omega)]).trans q60
      have q81 : IMn s70 := by rw [es70]; exact IMn_N269 q61 (by omega)
      have q82 : IMk s70 := by rw [es70]; exact IMk_o (by unfold suIMk; first | decide | omega) q62
      have q83 : IMo s70 := by rw [es70]; exact IMo_o (by unfold suIMo; first | decide | omega) q63
      have hF84 := hF64.put es70 (by omega)
      have E143 := es70
      refine x_aload_n hx hb hl 1 rfl dX11_servesOf_144 rfl ?_
      refine x_aload_n hx hb hl 1 rfl dX11_servesOf_145 rfl ?_
      refine x_get (j := 41) (v := .int (xJ (s70 268 41))) hx hb hown hT hE hW cls_X11 (Or.inl (by decide)) (so_268 h0 g _) (by decide) rfl wq1226 dX11_servesOf_146 ?_
      refine x_rd hW (fun x85 ex85 rx85 => ?_)
      have V146 : x85 = s0 268 41 := by rw [ex85, E143, xU_k _ _ _ (by first | decide | omega), E78, xU_k _ _ _ (by first | decide | omega), E67, xU_j _ _ (by decide), E54, xU_k _ _ _ (by first | decide | omega), P2.2.2.2]
      refine x_iload hx hb hl 0 rfl dX11_servesOf_149 ?_
      refine x_iadd hx hb dX11_servesOf_151 ?_
      refine x_put (j := 41) hx hb hown hT hE hW cls_X11 (by decide) (fun σ => so_268 h0 g σ) (by decide) (st_X11_41 h0 s70 268 (x85 + x66)) (ln_X11_41 h0 _ _) wq1226 rfl rfl rfl (by omega) dX11_servesOf_152 (fun H locs s86 es86 hW => ?_)
      have q87 : s86 268 8 = s0 268 8 := (show s86 268 8 = s70 268 8 from by rw [es86, xU_j _ _ (by decide)]).trans q71
      have q88 : s86 268 58 = s0 268 58 := (show s86 268 58 = s70 268 58 from by rw [es86, xU_j _ _ (by decide)]).trans q72
      have q89 : s86 269 0 = s0 269 0 := (show s86 269 0 = s70 269 0 from by rw [es86, xU_k _ _ _ (by first | decide | omega)]).trans q73
      have q90 : s86 269 1 = s0 269 1 := (show s86 269 1 = s70 269 1 from by rw [es86, xU_k _ _ _ (by first | decide | omega)]).trans q74
      have q91 : s86 269 2 = s0 269 2 := (show s86 269 2 = s70 269 2 from by rw [es86, xU_k _ _ _ (by first | decide | omega)]).trans q75
      have q92 : s86 269 3 = s0 269 3 := (show s86 269 3 = s70 269 3 from by rw [es86, xU_k _ _ _ (by first | decide | omega)]).trans q76
      have q93 : s86 269 34 = s0 269 34 := (show s86 269 34 = s70 269 34 from by rw [es86, xU_k _ _ _ (by first | decide | omega)]).trans q77
      have q94 : s86 269 37 = s0 269 37 := (show s86 269 37 = s70 269 37 from by rw [es86, xU_k _ _ _ (by first | decide | omega)]).trans q78
      have q95 : s86 268 17 = s0 268 17 := (show s86 268 17 = s70 268 17 from by rw [es86, xU_j _ _ (by decide)]).trans q79
      have q96 : s86 268 48 = s0 268 48 := (show s86 268 48 = s70 268 48 from by rw [es86, xU_j _ _ (by decide)]).trans q80
      have q97 : IMn s86 := by rw [es86]; exact IMn_268 q81 (by omega)
      have q98 : IMk s86 := by rw [es86]; exact IMk_268 q82 (by omega)
      have q99 : IMo s86 := by rw [es86]; exact IMo_o (by unfold suIMo; first | decide | omega) q83
      have hF100 := hF84.put es86 (by omega)
      have E152 := es86
      have N152 : s86 269 = xud (xud (s0 269) (4 + f) x1) (14 + f) (zYr s0 (14 + f) - x66) := by rw [E152, xU_k _ _ _ (by first | decide | omega), E143, xU_xud, E78, xU_xud, E67, xU_k _ _ _ (by first | decide | omega), E54, xU_k _ _ _ (by first | decide | omega), P2.1, ← V139]
      have C152 : s86 268 42 = s0 268 42 ∧ s86 268 43 = s0 268 43 ∧ s86 268 44 = zwp (s0 268 44 + zds K9 (zYr s0 (4 + f)) (zvF K9 q9 (zYr s0) 118 3 f).toNat x1) ∧ s86 268 41 = s0 268 41 + x66 ∧ s86 268 48 = s0 268 48 := by
        have g : ∀ j : Int, j ≠ 41 → s86 268 j = s35 268 j := fun j hj => by rw [E152, xU_j _ _ hj, E143, xU_k _ _ _ (by first | decide | omega), E78, xU_k _ _ _ (by first | decide | omega)]
        have g2 : ∀ j : Int, j ≠ 44 → s35 268 j = s0 268 j := fun j hj => by rw [E67, xU_j _ _ hj, E54, xU_k _ _ _ (by first | decide | omega), P2.2.2.2]
        refine ⟨(g 42 (by decide)).trans (g2 42 (by decide)), (g 43 (by decide)).trans (g2 43 (by decide)), ?_, ?_, (g 48 (by decide)).trans (g2 48 (by decide))⟩
        · rw [g 44 (by decide), E67, xU_s, W66, V57, V65]
        · rw [E152, xU_s, V146]
      have T152 : s86 299 = xud (s0 299) x1 1 := by rw [E152, xU_k _ _ _ (by first | decide | omega), E143, xU_k _ _ _ (by first | decide | omega), E78, xU_k _ _ _ (by first | decide | omega), E67, xU_k _ _ _ (by first | decide | omega), E54, xU_xud, P2.2.1]
      have F152 : x66 = (if zYr s0 (14 + f) ≤ (if b ≠ 0 then (if zYr s0 44 % 3 = 0 then 1 else 0) else s0 295 x1) then zYr s0 (14 + f) else (if b ≠ 0 then (if zYr s0 44 % 3 = 0 then 1 else 0) else s0 295 x1)) := by rw [← v118_0]; split <;> omega
      have L152 : zYr s86 = xud (xud (xud (zYr s0) 48 (zwp (zYr s0 48 + zds K9 (zYr s0 (4 + f)) (zvF K9 q9 (zYr s0) 118 3 f).toNat x1))) (4 + f) x1) (14 + f) (if zYr s0 (14 + f) ≤ (if b ≠ 0 then (if zYr s0 44 % 3 = 0 then 1 else 0) else s0 295 x1) then 0 else zYr s0 (14 + f) - (if b ≠ 0 then (if zYr s0 44 % 3 = 0 then 1 else 0) else s0 295 x1)) := by
        show zYN (s86 269) (s86 268 42) (s86 268 43) (s86 268 44) = _
        rw [N152, C152.1, C152.2.1, C152.2.2.1, zYN_uO hf (by rw [xud_o _ _ (by omega)]; exact htl), zYN_uF hf htl, zYN_us (s := s0 268 44)]
        congr 1
        rw [F152]
        split <;> omega
      refine x_aload_n hx hb hl 1 rfl dX11_servesOf_155 rfl ?_
      refine x_get (j := 3) (v := .ref (h0 + 272)) hx hb hown hT hE hW cls_X11 (Or.inl (by decide)) (so_268 h0 g _) (by decide) rfl wq1188 dX11_servesOf_156 ?_
      refine x_iload_n hx hb hl 3 rfl dX11_servesOf_159 rfl ?_
      refine x_iald hx hb hE hW (Or.inl (by decide)) (sa_272 h0 g _) (by omega) (by decide) dX11_servesOf_160 ?_
      refine x_rd hW (fun x101 ex101 rx101 => ?_)
      have K160 : x101 = K9 x1 := by
        rw [ex101, hF100 272 (by first | decide | omega)]
        exact (hK _ (by omega) (by omega)).1
      refine x_iconst hx hb dX11_servesOf_161 ?_
      refine x_icmp_ne (tgt := 183) hx hb rx101 (by decide) dX11_servesOf_162 (by decide) (fun c102 => ?_) (fun c102 => ?_)
      · skip
        rw [eQ]
        exact x_vret hx hb hr hlk hW ⟨hF100, ⟨q97, q98, q99, q87, q88, q89, q90, q91, q92, q93, q94, q95, q96, trivial⟩, by
            have Zr : (zYr s86, s86 299) = zsv K9 q9 (s0 295) b f (zYr s0, s0 299) := by
              first
                | (rw [L182, T182, L152]; refine Eq.trans ?_ (zsv_some (nt := b) (H2.1.trans eb9) (by omega)).symm; rw [if_pos (show K9 x1 = 3 from by omega)])
                | (rw [L152, T152]; refine Eq.trans ?_ (zsv_some (nt := b) (H2.1.trans eb9) (by omega)).symm; rw [if_neg (show ¬ K9 x1 = 3 from by omega)]; exact congrArg (fun y => (y, xud (s0 299) x1 1)) (zxud_e (by rw [xud_o _ _ (by omega), xud_o _ _ (by omega), xud_o _ _ (by omega)])))
            have Y14 : zYr s86 (14 + f) = (if zYr s0 (14 + f) ≤ (if b ≠ 0 then (if zYr s0 44 % 3 = 0 then 1 else 0) else s0 295 x1) then 0 else zYr s0 (14 + f) - (if b ≠ 0 then (if zYr s0 44 % 3 = 0 then 1 else 0) else s0 295 x1)) := by
              first
                | (rw [L182, xud_o _ _ (by omega), L152, xud_s])
                | (rw [L152, xud_s])
            have S41 : s86 268 41 = s0 268 41 + x66 := by
              first
                | (rw [E182, xU_k _ _ _ (by first | decide | omega)]; exact C152.2.2.2.1)
                | exact C152.2.2.2.1
            refine ⟨Zr, by rw [Y14, S41, F152]; split <;> omega, ?_, ?_, ?_⟩
            · first
                | (rw [E182, xU_s, V181]; exact z182.1)
                | (rw [N152, xud_o _ _ (by omega), xud_o _ _ (by omega)]; exact hB)
            · first
                | (rw [E182, xU_j _ _ (by decide), N152, xud_o _ _ (by omega), xud_o _ _ (by omega)])
                | (rw [N152, xud_o _ _ (by omega), xud_o _ _ (by omega)])
            · first
                | (rw [E182, xU_k _ _ _ (by first | decide | omega)]; exact C152.2.2.2.2)
                | exact C152.2.2.2.2⟩ dX11_servesOf_183
      refine x_aload_n hx hb hl 1 rfl dX11_servesOf_165 rfl ?_
      refine x_get (j := 0) (v := .ref (h0 + 269)) hx hb hown hT hE hW cls_X11 (Or.inl (by decide)) (so_268 h0 g _) (by decide) rfl wq1185 dX11_servesOf_166 ?_
      refine x_bipush hx hb dX11_servesOf_169 (by decide) ?_
      refine x_aload_n hx hb hl 1 rfl dX11_servesOf_171 rfl ?_
      refine x_get (j := 0) (v := .ref (h0 + 269)) hx hb hown hT hE hW cls_X11 (Or.inl (by decide)) (so_268 h0 g _) (by decide) rfl wq1185 dX11_servesOf_172 ?_
      refine x_bipush hx hb dX11_servesOf_175 (by decide) ?_
      refine x_iald hx hb hE hW (Or.inl (by decide)) (sa_269 h0 g _) ⟨by decide, by decide⟩ (by decide) dX11_servesOf_177 ?_
      refine x_rd hW (fun x103 ex103 rx103 => ?_)
      have V177 : x103 = s0 269 36 := by rw [ex103, N152, xud_o _ _ (by omega), xud_o _ _ (by omega)]
      refine x_iconst hx hb dX11_servesOf_178 ?_
      refine x_iload_n hx hb hl 2 rfl dX11_servesOf_179 rfl ?_
      refine lv_ishl hx hb dX11_servesOf_180 ?_
      refine x_anyE (fun x104 ex104 rx104 => ?_)
      have V180 := ex104
      refine lv_ior hx hb dX11_servesOf_181 ?_
      refine x_anyE (fun x105 ex105 rx105 => ?_)
      have V181 : x105 = zbo (s0 269 36) f := by rw [← V177]; exact zbo_j (by omega) hf V180 rx105 ex105
      refine x_iast hx hb hE hW (by decide) (fun σ => sa_269 h0 g σ) ⟨by decide, by decide⟩ (by decide) rx105 dX11_servesOf_182 (fun H locs s106 es106 hW => ?_)
      have q107 : s106 268 8 = s0 268 8 := (show s106 268 8 = s86 268 8 from by rw [es106, xU_k _ _ _ (by first | decide | omega)]).trans q87
      have q108 : s106 268 58 = s0 268 58 := (show s106 268 58 = s86 268 58 from by rw [es106, xU_k _ _ _ (by first | decide | omega)]).trans q88
      have q109 : s106 269 0 = s0 269 0 := (show s106 269 0 = s86 269 0 from by rw [es106, xU_j _ _ (by decide)]).trans q89
      have q110 : s106 269 1 = s0 269 1 := (show s106 269 1 = s86 269 1 from by rw [es106, xU_j _ _ (by decide)]).trans q90
      have q111 : s106 269 2 = s0 269 2 := (show s106 269 2 = s86 269 2 from by rw [es106, xU_j _ _ (by decide)]).trans q91
      have q112 : s106 269 3 = s0 269 3 := (show s106 269 3 = s86 269 3 from by rw [es106, xU_j _ _ (by decide)]).trans q92
      have q113 : s106 269 34 = s0 269 34 := (show s106 269 34 = s86 269 34 from by rw [es106, xU_j _ _ (by decide)]).trans q93
      have q114 : s106 269 37 = s0 269 37 := (show s106 269 37 = s86 269 37 from by rw [es106, xU_j _ _ (by decide)]).trans q94
      have q115 : s106 268 17 = s0 268 17 := (show s106 268 17 = s86 268 17 from by rw [es106, xU_k _ _ _ (by first | decide | omega)]).trans q95
      have q116 : s106 268 48 = s0 268 48 := (show s106 268 48 = s86 268 48 from by rw [es106, xU_k _ _ _ (by first | decide | omega)]).trans q96
      have q117 : IMn s106 := by rw [es106]; exact IMn_N269 q97 (by omega)
      have q118 : IMk s106 := by rw [es106]; exact IMk_o (by unfold suIMk; first | decide | omega) q98
      have q119 : IMo s106 := by rw [es106]; exact IMo_o (by unfold suIMo; first | decide | omega) q99
      have hF120 := hF100.put es106 (by omega)
      have E182 := es106
      have T182 : s106 299 = xud (s0 299) x1 1 := by rw [E182, xU_k _ _ _ (by first | decide | omega)]; exact T152
      have L182 : zYr s106 = xud (zYr s86) (34 + f) 1 := by
        show zYN (s106 269) (s106 268 42) (s106 268 43) (s106 268 44) = _
        rw [E182, xU_xud, xU_k _ _ _ (by first | decide | omega), V181, show s0 269 36 = s86 269 36 from by rw [N152, xud_o _ _ (by omega), xud_o _ _ (by omega)]]
        exact zYN_uD hf (by rw [N152, xud_o _ _ (by omega), xud_o _ _ (by omega)]; exact htl) (by rw [N152, xud_o _ _ (by omega), xud_o _ _ (by omega)]; exact hB)
      have z182 := zbo_s hB hf
      rw [eQ]
      exact x_vret hx hb hr hlk hW ⟨hF120, ⟨q117, q118, q119, q107, q108, q109, q110, q111, q112, q113, q114, q115, q116, trivial⟩, by
          have Zr : (zYr s106, s106 299) = zsv K9 q9 (s0 295) b f (zYr s0, s0 299) := by
            first
              | (rw [L182, T182, L152]; refine Eq.trans ?_ (zsv_some (nt := b) (H2.1.trans eb9) (by omega)).symm; rw [if_pos (show K9 x1 = 3 from by omega)])
              | (rw [L152, T152]; refine Eq.trans ?_ (zsv_some (nt := b) (H2.1.trans eb9) (by omega)).symm; rw [if_neg (show ¬ K9 x1 = 3 from by omega)]; exact congrArg (fun y => (y, xud (s0 299) x1 1)) (zxud_e (by rw [xud_o _ _ (by omega), xud_o _ _ (by omega), xud_o _ _ (by omega)])))
          have Y14 : zYr s106 (14 + f) = (if zYr s0 (14 + f) ≤ (if b ≠ 0 then (if zYr s0 44 % 3 = 0 then 1 else 0) else s0 295 x1) then 0 else zYr s0 (14 + f) - (if b ≠ 0 then (if zYr s0 44 % 3 = 0 then 1 else 0) else s0 295 x1)) := by
            first
              | (rw [L182, xud_o _ _ (by omega), L152, xud_s])
              | (rw [L152, xud_s])
          have S41 : s106 268 41 = s0 268 41 + x66 := by
            first
              | (rw [E182, xU_k _ _ _ (by first | decide | omega)]; exact C152.2.2.2.1)
              | exact C152.2.2.2.1
          refine ⟨Zr, by rw [Y14, S41, F152]; split <;> omega, ?_, ?_, ?_⟩
          · first
              | (rw [E182, xU_s, V181]; exact z182.1)
              | (rw [N152, xud_o _ _ (by omega), xud_o _ _ (by omega)]; exact hB)
          · first
              | (rw [E182, xU_j _ _ (by decide), N152, xud_o _ _ (by omega), xud_o _ _ (by omega)])
              | (rw [N152, xud_o _ _ (by omega), xud_o _ _ (by omega)])
          · first
              | (rw [E182, xU_k _ _ _ (by first | decide | omega)]; exact C152.2.2.2.2)
              | exact C152.2.2.2.2⟩ dX11_servesOf_183
    refine x_if_eq (tgt := 112) hx hb rb dX11_servesOf_89 (by decide) (fun c121 => ?_) (fun c121 => ?_)
    · skip
      refine x_aload_n hx hb hl 1 rfl dX11_servesOf_112 rfl ?_
      refine x_get (j := 40) (v := .ref (h0 + 295)) hx hb hown hT hE hW cls_X11 (Or.inl (by decide)) (so_268 h0 g _) (by decide) rfl wq1225 dX11_servesOf_113 ?_
      refine x_iload_n hx hb hl 0 rfl dX11_servesOf_116 rfl ?_
      refine x_iald hx hb hE hW (Or.inl (by decide)) (sa_295 h0 g _) (by omega) (by decide) dX11_servesOf_117 ?_
      refine x_rd hW (fun x122 ex122 rx122 => ?_)
      have V117 : x122 = s0 295 x1 := by rw [ex122, E78, xU_k _ _ _ (by first | decide | omega), E67, xU_k _ _ _ (by first | decide | omega), E54, xU_k _ _ _ (by first | decide | omega), P2.2.2.1]
      have B117 := hLb x1 (by omega) (by omega)
      exact J118 x122 ls rx122 (by first | (rw [if_neg (by omega)]; omega) | (rw [if_pos (by omega), if_pos (by omega)]) | (rw [if_pos (by omega), if_neg (by omega)])) (by omega)  (lv_sub hl [1, 2, 0] rfl)
    refine x_aload_n hx hb hl 1 rfl dX11_servesOf_92 rfl ?_
    refine x_get (j := 0) (v := .ref (h0 + 269)) hx hb hown hT hE hW cls_X11 (Or.inl (by decide)) (so_268 h0 g _) (by decide) rfl wq1185 dX11_servesOf_93 ?_
    refine x_bipush hx hb dX11_servesOf_96 (by decide) ?_
    refine x_iald hx hb hE hW (Or.inl (by decide)) (sa_269 h0 g _) ⟨by decide, by decide⟩ (by decide) dX11_servesOf_98 ?_
    refine x_rd hW (fun x123 ex123 rx123 => ?_)
    have bx123 : 0 ≤ x123 ∧ x123 ≤ 9999 := by rw [ex123]; exact (IMn.n1 q61).2.2.2.1
    have fx123 : x123 = s0 269 37 := ex123.trans q58
    have V98 : x123 = zYr s0 44 := by
      show _ = s0 269 37
      rw [ex123, E78, xU_xud, xud_o _ _ (by omega), E67, xU_k _ _ _ (by first | decide | omega), E54, xU_k _ _ _ (by first | decide | omega), P2.1]
    have z98 : zYr s0 44 = s0 269 37 := rfl
    refine x_iconst hx hb dX11_servesOf_99 ?_
    refine x_irem hx hb rx123 (by decide) (by omega) (by decide) dX11_servesOf_100 ?_
    refine x_if_ne (tgt := 108) hx hb (by omega) dX11_servesOf_101 (by decide) (fun c124 => ?_) (fun c124 => ?_)
    · skip
      refine x_iconst hx hb dX11_servesOf_108 ?_
      refine lv_goto (tgt := 118) hx hb dX11_servesOf_109 (by decide) ?_
      exact J118 0 ls (by decide) (by first | (rw [if_neg (by omega)]; omega) | (rw [if_pos (by omega), if_pos (by omega)]) | (rw [if_pos (by omega), if_neg (by omega)])) (by omega)  (lv_sub hl [1, 2, 0] rfl)
    refine x_iconst hx hb dX11_servesOf_104 ?_
    refine lv_goto (tgt := 118) hx hb dX11_servesOf_105 (by decide) ?_
    exact J118 1 ls (by decide) (by first | (rw [if_neg (by omega)]; omega) | (rw [if_pos (by omega), if_pos (by omega)]) | (rw [if_pos (by omega), if_neg (by omega)])) (by omega)  (lv_sub hl [1, 2, 0] rfl)
  refine x_aload_n hx hb hl 1 rfl dX11_servesOf_11 rfl ?_
  refine x_get (j := 0) (v := .ref (h0 + 269)) hx hb hown hT hE hW cls_X11 (Or.inl (by decide)) (so_268 h0 g _) (by decide) rfl wq1185 dX11_servesOf_12 ?_
  refine x_bipush hx hb dX11_servesOf_15 (by decide) ?_
  refine x_iload_n hx hb hl 2 rfl dX11_servesOf_17 rfl ?_
  refine x_iadd hx hb dX11_servesOf_18 ?_
  refine x_sipush hx hb dX11_servesOf_19 (by decide) ?_
  refine x_aload_n hx hb hl 1 rfl dX11_servesOf_22 rfl ?_
  refine x_get (j := 0) (v := .ref (h0 + 269)) hx hb hown hT hE hW cls_X11 (Or.inl (by decide)) (so_268 h0 g _) (by decide) rfl wq1185 dX11_servesOf_23 ?_
  refine x_bipush hx hb dX11_servesOf_26 (by decide) ?_
  refine x_iload_n hx hb hl 2 rfl dX11_servesOf_28 rfl ?_
  refine x_iadd hx hb dX11_servesOf_29 ?_
  refine x_iald hx hb hE hW (Or.inl (by decide)) (sa_269 h0 g _) (by omega) (by decide) dX11_servesOf_30 ?_
  refine x_rd hW (fun x125 ex125 rx125 => ?_)
  have V30 : x125 = zYr s0 (24 + f) := by rw [ex125, P2.1, y24]
  refine x_iconst hx hb dX11_servesOf_31 ?_
  refine x_iadd hx hb dX11_servesOf_32 ?_
  refine x_goi (x_runS (As := [.int (xJ 999), .int (xJ (x125 + 1))]) hx hb hml hown hT hE hW hl.1 cf_X11_min wq1640 wq1639 (c_X11_min l D g T h0 s2 hW.2.1 999 (by decide) (x125 + 1) (by omega)) ⟨rfl, rfl, ⟨by decide, by decide⟩, ⟨by decide, by decide⟩⟩ rfl rfl (Nat.le_of_ble_eq_true rfl) dX11_servesOf_33) hW (fun x126 s127 H locs rx126 hp128 hW => ?_)
  obtain ⟨es127, hp128⟩ := hp128
  subst es127
  have ghp128 := hp128
  refine x_iast hx hb hE hW (by decide) (fun σ => sa_269 h0 g σ) (by omega) (by decide) rx126 dX11_servesOf_36 (fun H locs s129 es129 hW => ?_)
  have q130 : s129 268 8 = s0 268 8 := (show s129 268 8 = s2 268 8 from by rw [es129, xU_k _ _ _ (by first | decide | omega)]).trans q5
  have q131 : s129 268 58 = s0 268 58 := (show s129 268 58 = s2 268 58 from by rw [es129, xU_k _ _ _ (by first | decide | omega)]).trans q6
  have q132 : s129 269 0 = s0 269 0 := (show s129 269 0 = s2 269 0 from by rw [es129, xU_j _ _ (by omega)]).trans q7
  have q133 : s129 269 1 = s0 269 1 := (show s129 269 1 = s2 269 1 from by rw [es129, xU_j _ _ (by omega)]).trans q8
  have q134 : s129 269 2 = s0 269 2 := (show s129 269 2 = s2 269 2 from by rw [es129, xU_j _ _ (by omega)]).trans q10
  have q135 : s129 269 3 = s0 269 3 := (show s129 269 3 = s2 269 3 from by rw [es129, xU_j _ _ (by omega)]).trans q11
  have q136 : s129 269 34 = s0 269 34 := (show s129 269 34 = s2 269 34 from by rw [es129, xU_j _ _ (by omega)]).trans q12
  have q137 : s129 269 37 = s0 269 37 := (show s129 269 37 = s2 269 37 from by rw [es129, xU_j _ _ (by omega)]).trans q13
  have q138 : s129 268 17 = s0 268 17 := (show s129 268 17 = s2 268 17 from by rw [es129, xU_k _ _ _ (by first | decide | omega)]).trans q14
  have q139 : s129 268 48 = s0 268 48 := (show s129 268 48 = s2 268 48 from by rw [es129, xU_k _ _ _ (by first | decide | omega)]).trans q15
  have q140 : IMn s129 := by rw [es129]; exact IMn_N269 hp3.1.1 (by omega)
  have q141 : IMk s129 := by rw [es129]; exact IMk_o (by unfold suIMk; first | decide | omega) hp3.1.2.1
  have q142 : IMo s129 := by rw [es129]; exact IMo_o (by unfold suIMo; first | decide | omega) hp3.1.2.2.1
  have hF143 := hF4.put es129 (by omega)
  have E36 := es129
  obtain ⟨m9, em9⟩ : ∃ m9 : Int, m9 = x126 := ⟨_, rfl⟩
  rw [← em9] at E36
  refine x_aload_n hx hb hl 1 rfl dX11_servesOf_37 rfl ?_
  refine x_aload_n hx hb hl 1 rfl dX11_servesOf_38 rfl ?_
  refine x_get (j := 42) (v := .int (xJ (s129 268 42))) hx hb hown hT hE hW cls_X11 (Or.inl (by decide)) (so_268 h0 g _) (by decide) rfl wq1227 dX11_servesOf_39 ?_
  refine x_rd hW (fun x144 ex144 rx144 => ?_)
  have V39 : x144 = s0 268 42 := by rw [ex144, E36, xU_k _ _ _ (by first | decide | omega), P2.2.2.2]
  refine x_iconst hx hb dX11_servesOf_42 ?_
  refine x_iadd hx hb dX11_servesOf_43 ?_
  refine x_wv (fun x145 ex145 rx145 => ?_)
  have W43 := ex145
  refine x_put (j := 42) hx hb hown hT hE hW cls_X11 (by decide) (fun σ => so_268 h0 g σ) (by decide) (st_X11_42 h0 s129 268 x145) (ln_X11_42 h0 _ _) wq1227 rfl rfl rfl rx145 dX11_servesOf_44 (fun H locs s146 es146 hW => ?_)
  have q147 : s146 268 8 = s0 268 8 := (show s146 268 8 = s129 268 8 from by rw [es146, xU_j _ _ (by decide)]).trans q130
  have q148 : s146 268 58 = s0 268 58 := (show s146 268 58 = s129 268 58 from by rw [es146, xU_j _ _ (by decide)]).trans q131
  have q149 : s146 269 0 = s0 269 0 := (show s146 269 0 = s129 269 0 from by rw [es146, xU_k _ _ _ (by first | decide | omega)]).trans q132
  have q150 : s146 269 1 = s0 269 1 := (show s146 269 1 = s129 269 1 from by rw [es146, xU_k _ _ _ (by first | decide | omega)]).trans q133
  have q151 : s146 269 2 = s0 269 2 := (show s146 269 2 = s129 269 2 from by rw [es146, xU_k _ _ _ (by first | decide | omega)]).trans q134
  have q152 : s146 269 3 = s0 269 3 := (show s146 269 3 = s129 269 3 from by rw [es146, xU_k _ _ _ (by first | decide | omega)]).trans q135
  have q153 : s146 269 34 = s0 269 34 := (show s146 269 34 = s129 269 34 from by rw [es146, xU_k _ _ _ (by first | decide | omega)]).trans q136
  have q154 : s146 269 37 = s0 269 37 := (show s146 269 37 = s129 269 37 from by rw [es146, xU_k _ _ _ (by first | decide | omega)]).trans q137
  have q155 : s146 268 17 = s0 268 17 := (show s146 268 17 = s129 268 17 from by rw [es146, xU_j _ _ (by decide)]).trans q138
  have q156 : s146 268 48 = s0 268 48 := (show s146 268 48 = s129 268 48 from by rw [es146, xU_j _ _ (by decide)]).trans q139
  have q157 : IMn s146 := by rw [es146]; exact IMn_268 q140 (by omega)
  have q158 : IMk s146 := by rw [es146]; exact IMk_268 q141 (by omega)
  have q159 : IMo s146 := by rw [es146]; exact IMo_o (by unfold suIMo; first | decide | omega) q142
  have hF160 := hF143.put es146 (by omega)
  have E44 := es146
  have N44 : s146 269 = xud (s0 269) (24 + f) m9 := by rw [E44, xU_k _ _ _ (by first | decide | omega), E36, xU_xud, P2.1]
  have C44 : s146 268 42 = zwp (s0 268 42 + 1) ∧ s146 268 43 = s0 268 43 ∧ s146 268 44 = s0 268 44 ∧ s146 268 41 = s0 268 41 ∧ s146 268 48 = s0 268 48 := by
    have g : ∀ j : Int, j ≠ 42 → s146 268 j = s0 268 j := fun j hj => by rw [E44, xU_j _ _ hj, E36, xU_k _ _ _ (by first | decide | omega), P2.2.2.2]
    rw [g 43 (by decide), g 44 (by decide), g 41 (by decide), g 48 (by decide), E44, xU_s, W43, V39]
    exact ⟨rfl, rfl, rfl, rfl, rfl⟩
  have T44 : s146 299 = s0 299 := by rw [E44, xU_k _ _ _ (by first | decide | omega), E36, xU_k _ _ _ (by first | decide | omega), P2.2.1]
  have L44 : zYr s146 = xud (xud (zYr s0) 46 (zwp (zYr s0 46 + 1))) (24 + f) (if zYr s0 (24 + f) + 1 ≤ 999 then zYr s0 (24 + f) + 1 else 999) := by
    show zYN (s146 269) (s146 268 42) (s146 268 43) (s146 268 44) = _
    rw [N44, C44.1, C44.2.1, C44.2.2.1, zYN_uA hf htl, zYN_ua (a := s0 268 42)]
    congr 1
    split <;> omega
  rw [eQ]
  exact x_vret hx hb hr hlk hW ⟨hF160, ⟨q157, q158, q159, q147, q148, q149, q150, q151, q152, q153, q154, q155, q156, trivial⟩, ⟨by rw [L44, T44]; exact (zsv_none (by omega)).symm, by rw [L44, xud_o _ _ (by omega), xud_o _ _ (by omega), C44.2.2.2.1]; omega, by rw [N44, xud_o _ _ (by omega)]; exact hB, by rw [N44, xud_o _ _ (by omega)], C44.2.2.2.2⟩⟩ dX11_servesOf_47

set_option maxHeartbeats 4000000 in
set_option maxRecDepth 100000 in
theorem c_X11_drawsF (l : Launch) (D : va_G) (g : xG) (T : Nat × Nat × Nat) (h0 : Nat) (s0 : xS) (hσ : xRR s0) (p0 : IMn s0) (p1 : IMk s0) (p2 : IMo s0) : Met l yX11_draws (xws yX11_draws cX11_draws 1 (some .int)) { frames := 0, cells := 0, slots := 0, locals := 0 } (xP [.ref (h0 + 268)] D g T h0 s0) (xQi D g h0 (fun r τ => xFr (fun k => k = 269) s0 τ ∧ (((IMn τ) ∧ (IMk τ) ∧ (IMo τ) ∧ (τ 269 0 = s0 269 0) ∧ (τ 269 1 = s0 269 1) ∧ (τ 269 2 = s0 269 2) ∧ (τ 269 3 = s0 269 3) ∧ (τ 269 34 = s0 269 34) ∧ (τ 269 37 = s0 269 37) ∧ True) ∧ (zYr τ = xud (zYr s0) 45 (zX (zYr s0 45)) ∧ r = zX (zYr s0 45) % 10 ∧ τ 269 35 = s0 269 35 ∧ τ 269 36 = s0 269 36)))) 0 0 (xA h0) := by
  refine x_met hσ (by decide) (Nat.le_of_ble_eq_true rfl) ?_
  intro p e s m args below meth c hx hb hr hml hown hT hlk hnm hE hW ls hl
  have hl : lv_has ls 1 [(0, .ref (h0 + 268))] := hl
  obtain ⟨Q, eQ⟩ : ∃ Q, Q = MQ below (xQi D g h0 (fun r τ => xFr (fun k => k = 269) s0 τ ∧ (((IMn τ) ∧ (IMk τ) ∧ (IMo τ) ∧ (τ 269 0 = s0 269 0) ∧ (τ 269 1 = s0 269 1) ∧ (τ 269 2 = s0 269 2) ∧ (τ 269 3 = s0 269 3) ∧ (τ 269 34 = s0 269 34) ∧ (τ 269 37 = s0 269 37) ∧ True) ∧ (zYr τ = xud (zYr s0) 45 (zX (zYr s0 45)) ∧ r = zX (zYr s0 45) % 10 ∧ τ 269 35 = s0 269 35 ∧ τ 269 36 = s0 269 36)))) args s 0 0 (xA h0) := ⟨_, rfl⟩
  rw [← eQ]
  generalize hHe : ([] : List Loc) = locs at hW ⊢
  obtain ⟨H, eH⟩ : ∃ H, H = s.heap := ⟨_, rfl⟩
  rw [← eH] at hW ⊢
  have hF : xFr (fun k => k = 269) s0 s0 := xFr.rf
  have k268_8 : s0 268 8 = s0 268 8 := rfl
  have k268_58 : s0 268 58 = s0 268 58 := rfl
  have k269_0 : s0 269 0 = s0 269 0 := rfl
  have k269_1 : s0 269 1 = s0 269 1 := rfl
  have k269_2 : s0 269 2 = s0 269 2 := rfl
  have k269_3 : s0 269 3 = s0 269 3 := rfl
  have k269_34 : s0 269 34 = s0 269 34 := rfl
  have k269_37 : s0 269 37 = s0 269 37 := rfl
  have k268_17 : s0 268 17 = s0 268 17 := rfl
  have k268_48 : s0 268 48 = s0 268 48 := rfl
  refine x_aload_n hx hb hl 0 rfl dX11_draws_0 rfl ?_
  refine x_get (j := 0) (v := .ref (h0 + 269)) hx hb hown hT hE hW cls_X11 (Or.inl (by decide)) (so_268 h0 g _) (by decide) rfl wq1185 dX11_draws_1 ?_
  refine x_bipush hx hb dX11_draws_4 (by decide) ?_
  refine x_sipush hx hb dX11_draws_6 (by decide) ?_
  refine x_aload_n hx hb hl 0 rfl dX11_draws_9 rfl ?_
  refine x_get (j := 0) (v := .ref (h0 + 269)) hx hb hown hT hE hW cls_X11 (Or.inl (by decide)) (so_268 h0 g _) (by decide) rfl wq1185 dX11_draws_10 ?_
  refine x_bipush hx hb dX11_draws_13 (by decide) ?_
  refine x_iald hx hb hE hW (Or.inl (by decide)) (sa_269 h0 g _) ⟨by decide, by decide⟩ (by decide) dX11_draws_15 ?_
  refine x_rd hW (fun x1 ex1 rx1 => ?_)
  have bx1 : 0 ≤ x1 ∧ x1 ≤ 65535 := by rw [ex1]; exact (IMn.n1 p0).2.2.2.2
  have V15 : x1 = zYr s0 45 := ex1
  refine x_imul hx hb dX11_draws_16 ?_
  refine x_sipush hx hb dX11_draws_17 (by decide) ?_
  refine x_iadd hx hb dX11_draws_20 ?_
  refine lv_ldcw (v := xJ 65536) hx hb hown (hT _ wq1570) dX11_draws_21 ?_
  refine x_irem hx hb (by omega) (by decide) (by omega) (by decide) dX11_draws_24 ?_
  refine x_iast hx hb hE hW (by decide) (fun σ => sa_269 h0 g σ) ⟨by decide, by decide⟩ (by decide) (by omega) dX11_draws_25 (fun H locs s2 es2 hW => ?_)
  have q3 : IMn s2 := by rw [es2]; exact IMn_N269 p0 (by omega)
  have q4 : IMk s2 := by rw [es2]; exact IMk_o (by unfold suIMk; first | decide | omega) p1
  have q5 : IMo s2 := by rw [es2]; exact IMo_o (by unfold suIMo; first | decide | omega) p2
  have q6 : s2 268 8 = s0 268 8 := (show s2 268 8 = s0 268 8 from by rw [es2, xU_k _ _ _ (by first | decide | omega)]).trans k268_8
  have q7 : s2 268 58 = s0 268 58 := (show s2 268 58 = s0 268 58 from by rw [es2, xU_k _ _ _ (by first | decide | omega)]).trans k268_58
  have q8 : s2 269 0 = s0 269 0 := (show s2 269 0 = s0 269 0 from by rw [es2, xU_j _ _ (by decide)]).trans k269_0
  have q9 : s2 269 1 = s0 269 1 := (show s2 269 1 = s0 269 1 from by rw [es2, xU_j _ _ (by decide)]).trans k269_1
  have q10 : s2 269 2 = s0 269 2 := (show s2 269 2 = s0 269 2 from by rw [es2, xU_j _ _ (by decide)]).trans k269_2
  have q11 : s2 269 3 = s0 269 3 := (show s2 269 3 = s0 269 3 from by rw [es2, xU_j _ _ (by decide)]).trans k269_3
  have q12 : s2 269 34 = s0 269 34 := (show s2 269 34 = s0 269 34 from by rw [es2, xU_j _ _ (by decide)]).trans k269_34
  have q13 : s2 269 37 = s0 269 37 := (show s2 269 37 = s0 269 37 from by rw [es2, xU_j _ _ (by decide)]).trans k269_37
  have q14 : s2 268 17 = s0 268 17 := (show s2 268 17 = s0 268 17 from by rw [es2, xU_k _ _ _ (by first | decide | omega)]).trans k268_17
  have q15 : s2 268 48 = s0 268 48 := (show s2 268 48 = s0 268 48 from by rw [es2, xU_k _ _ _ (by first | decide | omega)]).trans k268_48
  have hF16 := hF.put es2 (by omega)
  have E25 := es2
  refine x_aload_n hx hb hl 0 rfl dX11_draws_26 rfl ?_
  refine x_get (j := 0) (v := .ref (h0 + 269)) hx hb hown hT hE hW cls_X11 (Or.inl (by decide)) (so_268 h0 g _) (by decide) rfl wq1185 dX11_draws_27 ?_
  refine x_bipush hx hb dX11_draws_30 (by decide) ?_
  refine x_iald hx hb hE hW (Or.inl (by decide)) (sa_269 h0 g _) ⟨by decide, by decide⟩ (by decide) dX11_draws_32 ?_
  refine x_rd hW (fun x17 ex17 rx17 => ?_)
  have bx17 : 0 ≤ x17 ∧ x17 ≤ 65535 := by rw [ex17]; exact (IMn.n1 q3).2.2.2.2
  refine x_bipush hx hb dX11_draws_33 (by decide) ?_
  refine x_irem hx hb rx17 (by decide) (by omega) (by decide) dX11_draws_35 ?_
  rw [eQ]
  exact x_iret hx hb hr hlk hW (by omega) ⟨hF16, ⟨q3, q4, q5, q8, q9, q10, q11, q12, q13, trivial⟩, by
    have N : s2 269 = xud (s0 269) 38 (zX (zYr s0 45)) := by rw [E25, xU_xud, V15]; rfl
    refine ⟨?_, ?_, by rw [N, xud_o _ _ (by decide)], by rw [N, xud_o _ _ (by decide)]⟩
    · show zYN (s2 269) (s2 268 42) (s2 268 43) (s2 268 44) = _
      rw [N, E25, xU_k _ _ _ (show 268 ≠ 269 from by decide)]
      exact zYN_u38
    · have w : s2 269 38 = zX (zYr s0 45) := by rw [N, xud_s]
      omega⟩ dX11_draws_36
set_option maxHeartbeats 4000000 in
set_option maxRecDepth 100000 in
theorem c_X11_shadesGoF (l : Launch) (D : va_G) (g : xG) (T : Nat × Nat × Nat) (h0 : Nat) (s0 : xS) (hσ : xRR s0) (q9 : zLaw) (K9 : Int → Int) (l9 : Int → Int) (hok : zLok q9) (hlr : zLR s0 q9) (hK : ∀ t : Int, 0 ≤ t → t < 100 → s0 272 t = K9 t ∧ 0 ≤ K9 t ∧ K9 t ≤ 3) (hlm : ∀ i : Int, 0 ≤ i → i < 4 → s0 273 i = l9 i) (hG : ∀ j : Int, 0 ≤ j → j < 2 → xsh (s0 269 34) j % 2 = 1 → K9 (s0 269 j) ≠ 1) (hN : zrj (s0 269) 0 ≠ zrj (s0 269) 1 ∨ zrj (s0 269) 0 = -1) (hY : zYq (zYr s0)) (hB : 0 ≤ s0 269 36 ∧ s0 269 36 < 1024) (hz : s0 269 37 < 9999) (hsv : 0 ≤ s0 268 41 ∧ s0 268 41 ≤ 90000) (p0 : IMn s0) (p1 : IMk s0) (p2 : IMo s0) : Met l yX11_shadesGo (xws yX11_shadesGo cX11_shadesGo 6 none) { frames := 7, cells := 0, slots := 0, locals := 162 } (xP [.ref (h0 + 268)] D g T h0 s0) (xQv D g h0 (fun τ => xFr (fun k => k = 268 ∨ k = 269 ∨ k = 293 ∨ k = 294 ∨ k = 295 ∨ k = 296 ∨ k = 297 ∨ k = 298 ∨ k = 299) s0 τ ∧ (((IMn τ) ∧ (IMk τ) ∧ (IMo τ) ∧ (τ 268 8 = s0 268 8) ∧ (τ 268 58 = s0 268 58) ∧ (τ 269 0 = s0 269 0) ∧ (τ 269 1 = s0 269 1) ∧ (τ 269 2 = s0 269 2) ∧ (τ 269 3 = s0 269 3) ∧ (τ 269 34 = s0 269 34) ∧ (τ 268 17 = s0 268 17) ∧ (τ 268 48 = s0 268 48) ∧ True) ∧ (zYr τ = zmB K9 q9 l9 (s0 268 48) (zYr s0) ∧ τ 268 41 = s0 268 41 + zSm (zYr s0) - zSm (zYr τ) ∧ (0 ≤ τ 269 36 ∧ τ 269 36 < 1024) ∧ τ 269 35 = s0 269 35 ∧ τ 268 48 = s0 268 48 ∧ zYq (zYr τ) ∧ τ 269 37 = s0 269 37 + 1 ∧ zSm (zYr τ) ≤ zSm (zYr s0))))) 0 0 (xA h0) := by
  refine x_met hσ (by decide) (Nat.le_of_ble_eq_true rfl) ?_
  intro p e s m args below meth c hx hb hr hml hown hT hlk hnm hE hW ls hl
  have hl : lv_has ls 6 [(0, .ref (h0 + 268))] := hl
  obtain ⟨Q, eQ⟩ : ∃ Q, Q = MQ below (xQv D g h0 (fun τ => xFr (fun k => k = 268 ∨ k = 269 ∨ k = 293 ∨ k = 294 ∨ k = 295 ∨ k = 296 ∨ k = 297 ∨ k = 298 ∨ k = 299) s0 τ ∧ (((IMn τ) ∧ (IMk τ) ∧ (IMo τ) ∧ (τ 268 8 = s0 268 8) ∧ (τ 268 58 = s0 268 58) ∧ (τ 269 0 = s0 269 0) ∧ (τ 269 1 = s0 269 1) ∧ (τ 269 2 = s0 269 2) ∧ (τ 269 3 = s0 269 3) ∧ (τ 269 34 = s0 269 34) ∧ (τ 268 17 = s0 268 17) ∧ (τ 268 48 = s0 268 48) ∧ True) ∧ (zYr τ = zmB K9 q9 l9 (s0 268 48) (zYr s0) ∧ τ 268 41 = s0 268 41 + zSm (zYr s0) - zSm (zYr τ) ∧ (0 ≤ τ 269 36 ∧ τ 269 36 < 1024) ∧ τ 269 35 = s0 269 35 ∧ τ 268 48 = s0 268 48 ∧ zYq (zYr τ) ∧ τ 269 37 = s0 269 37 + 1 ∧ zSm (zYr τ) ≤ zSm (zYr s0))))) args s 0 0 (xA h0) := ⟨_, rfl⟩
  rw [← eQ]
  generalize hHe : ([] : List Loc) = locs at hW ⊢
  obtain ⟨H, eH⟩ : ∃ H, H = s.heap := ⟨_, rfl⟩
  rw [← eH] at hW ⊢
  have hF : xFr (fun k => k = 268 ∨ k = 269 ∨ k = 293 ∨ k = 294 ∨ k = 295 ∨ k = 296 ∨ k = 297 ∨ k = 298 ∨ k = 299) s0 s0 := xFr.rf
  have k268_8 : s0 268 8 = s0 268 8 := rfl
  have k268_58 : s0 268 58 = s0 268 58 := rfl
  have k269_0 : s0 269 0 = s0 269 0 := rfl
  have k269_1 : s0 269 1 = s0 269 1 := rfl
  have k269_2 : s0 269 2 = s0 269 2 := rfl
  have k269_3 : s0 269 3 = s0 269 3 := rfl
  have k269_34 : s0 269 34 = s0 269 34 := rfl
  have k268_17 : s0 268 17 = s0 268 17 := rfl
  have k268_48 : s0 268 48 = s0 268 48 := rfl
  have k269_37 : s0 269 37 = s0 269 37 := rfl
  have hm7 := (IMn.n1 p0).2.2.2.1
  refine x_aload_n hx hb hl 0 rfl dX11_shadesGo_0 rfl ?_
  refine x_goi (x_runV (As := []) hx hb hml hown hT hE hW hl.1 (Or.inl (by decide)) (so_268 h0 g _) rfl cf_X11_draws wq1568 wq135 wq1566 (c_X11_drawsF l D g T h0 s0 hW.2.1 p0 p1 p2) ⟨rfl, rfl, ⟨by decide, by decide⟩, ⟨by decide, by decide⟩⟩ rfl rfl (Nat.le_of_ble_eq_true rfl) dX11_shadesGo_1) hW (fun x1 s2 H locs rx1 hp3 hW => ?_)
  obtain ⟨fs2, hp3⟩ := hp3
  have hF4 := hF.call fs2 (fun k h => by omega)
  have q5 : s2 268 8 = s0 268 8 := (congrFun (fs2 _ (by omega)) _).trans k268_8
  have q6 : s2 268 58 = s0 268 58 := (congrFun (fs2 _ (by omega)) _).trans k268_58
  have q7 : s2 268 17 = s0 268 17 := (congrFun (fs2 _ (by omega)) _).trans k268_17
  have q8 : s2 268 48 = s0 268 48 := (congrFun (fs2 _ (by omega)) _).trans k268_48
  have ghp3 := hp3.2
  have H1 := ghp3
  have G1 : s2 268 = s0 268 := fs2 268 (by first | decide | omega)
  refine lv_istore_n (lv' := [(1, .int (xJ x1)), (0, .ref (h0 + 268))]) hx hb dX11_shadesGo_4 rfl hl (by decide) rfl (fun ls hl => ?_)
  refine x_aload_n hx hb hl 1 rfl dX11_shadesGo_5 rfl ?_
  refine x_aload_n hx hb hl 1 rfl dX11_shadesGo_6 rfl ?_
  refine x_get (j := 0) (v := .ref (h0 + 269)) hx hb hown hT hE hW cls_X11 (Or.inl (by decide)) (so_268 h0 g _) (by decide) rfl wq1185 dX11_shadesGo_7 ?_
  refine x_bipush hx hb dX11_shadesGo_10 (by decide) ?_
  refine x_iald hx hb hE hW (Or.inl (by decide)) (sa_269 h0 g _) ⟨by decide, by decide⟩ (by decide) dX11_shadesGo_12 ?_
  refine x_rd hW (fun x9 ex9 rx9 => ?_)
  have bx9 : 0 ≤ x9 ∧ x9 ≤ 9999 := by rw [ex9]; exact (IMn.n1 hp3.1.1).2.2.2.1
  have fx9 : x9 = s0 269 37 := ex9.trans (hp3.1.2.2.2.2.2.2.2.2.1.trans k269_37)
  have V12 : x9 = zYr s0 44 := by
    show _ = s0 269 37
    omega
  refine x_gov (x_runV (As := [.int (xJ x9)]) hx hb hml hown hT hE hW hl.1 (Or.inl (by decide)) (so_268 h0 g _) rfl cf_X11_feels wq1573 wq136 wq1571 (c_X11_feelsF l D g T h0 s2 hW.2.1 x9 rx9 (by omega) hp3.1.1 hp3.1.2.1 hp3.1.2.2.1) ⟨rfl, rfl, ⟨by decide, by decide⟩, ⟨by decide, by decide⟩⟩ rfl rfl (Nat.le_of_ble_eq_true rfl) dX11_shadesGo_13) hW (fun s11 H locs hp12 hW => ?_)
  obtain ⟨fs11, hp12⟩ := hp12
  have hF13 := hF4.call fs11 (fun k h => by omega)
  have q14 : s11 268 8 = s0 268 8 := (congrFun (fs11 _ (by omega)) _).trans q5
  have q15 : s11 268 58 = s0 268 58 := (congrFun (fs11 _ (by omega)) _).trans q6
  have q16 : s11 268 17 = s0 268 17 := (congrFun (fs11 _ (by omega)) _).trans q7
  have q17 : s11 268 48 = s0 268 48 := (congrFun (fs11 _ (by omega)) _).trans q8
  have q18 : s11 269 0 = s0 269 0 := (congrFun (fs11 _ (by omega)) _).trans (hp3.1.2.2.2.1.trans k269_0)
  have q19 : s11 269 1 = s0 269 1 := (congrFun (fs11 _ (by omega)) _).trans (hp3.1.2.2.2.2.1.trans k269_1)
  have q20 : s11 269 2 = s0 269 2 := (congrFun (fs11 _ (by omega)) _).trans (hp3.1.2.2.2.2.2.1.trans k269_2)
  have q21 : s11 269 3 = s0 269 3 := (congrFun (fs11 _ (by omega)) _).trans (hp3.1.2.2.2.2.2.2.1.trans k269_3)
  have q22 : s11 269 34 = s0 269 34 := (congrFun (fs11 _ (by omega)) _).trans (hp3.1.2.2.2.2.2.2.2.1.trans k269_34)
  have q23 : s11 269 37 = s0 269 37 := (congrFun (fs11 _ (by omega)) _).trans (hp3.1.2.2.2.2.2.2.2.2.1.trans k269_37)
  have ghp12 := hp12.2
  have H13 := ghp12
  rw [V12] at H13
  have K13 : s11 269 = s2 269 ∧ s11 268 = s2 268 := ⟨fs11 269 (by first | decide | omega), fs11 268 (by first | decide | omega)⟩
  refine x_iload_n hx hb hl 0 rfl dX11_shadesGo_16 rfl ?_
  refine x_aload_n hx hb hl 1 rfl dX11_shadesGo_17 rfl ?_
  refine x_bipush hx hb dX11_shadesGo_18 (by decide) ?_
  refine x_bipush hx hb dX11_shadesGo_20 (by decide) ?_
  refine x_goi (x_runV (As := [.int (xJ 99), .int (xJ 10)]) hx hb hml hown hT hE hW hl.1 (Or.inl (by decide)) (so_268 h0 g _) rfl cf_X11_byLaw wq1577 wq137 wq1575 (c_X11_byLawF l D g T h0 s11 hW.2.1 99 (by decide) 10 (by decide) q9 (zf0 (zYr s0 44)) (hok) (by first | exact hlr | exact hlr.f (fun k hk => hF13 k (by omega)) (by omega)) (H13) (by decide) (by decide) hp12.1.1 hp12.1.2.1 hp12.1.2.2.1) ⟨rfl, rfl, ⟨by decide, by decide⟩, ⟨by decide, by decide⟩⟩ rfl rfl (Nat.le_of_ble_eq_true rfl) dX11_shadesGo_22) hW (fun x24 s25 H locs rx24 hp26 hW => ?_)
  obtain ⟨fs25, hp26⟩ := hp26
  have hF27 := hF13.call fs25 (fun k h => by omega)
  have q28 : s25 268 8 = s0 268 8 := (congrFun (fs25 _ (by omega)) _).trans q14
  have q29 : s25 268 58 = s0 268 58 := (congrFun (fs25 _ (by omega)) _).trans q15
  have q30 : s25 268 17 = s0 268 17 := (congrFun (fs25 _ (by omega)) _).trans q16
  have q31 : s25 268 48 = s0 268 48 := (congrFun (fs25 _ (by omega)) _).trans q17
  have q32 : s25 269 0 = s0 269 0 := (congrFun (fs25 _ (by omega)) _).trans q18
  have q33 : s25 269 1 = s0 269 1 := (congrFun (fs25 _ (by omega)) _).trans q19
  have q34 : s25 269 2 = s0 269 2 := (congrFun (fs25 _ (by omega)) _).trans q20
  have q35 : s25 269 3 = s0 269 3 := (congrFun (fs25 _ (by omega)) _).trans q21
  have q36 : s25 269 34 = s0 269 34 := (congrFun (fs25 _ (by omega)) _).trans q22
  have q37 : s25 269 37 = s0 269 37 := (congrFun (fs25 _ (by omega)) _).trans q23
  have ghp26 := hp26.2
  have H22 := ghp26
  have C22 : (x1 < x24 → zcl q9 (zYr s0) = 1) ∧ (¬ x1 < x24 → zcl q9 (zYr s0) = 0) := ⟨fun h => zcl_y (by rw [← H1.2.1, ← H22]; exact h), fun h => zcl_n (by rw [← H1.2.1, ← H22]; exact h)⟩
  have Y22 : zYr s25 = xud (zYr s0) 45 (zX (zYr s0 45)) := (zYr_f ((fs25 269 (by first | decide | omega)).trans K13.1) ((fs25 268 (by first | decide | omega)).trans K13.2)).trans H1.1
  have G22 : s25 268 = s0 268 := (fs25 268 (by first | decide | omega)).trans (K13.2.trans G1)
  have P22 : s25 269 35 = s0 269 35 ∧ s25 269 36 = s0 269 36 := by rw [fs25 269 (by first | decide | omega), K13.1]; exact ⟨H1.2.2.1, H1.2.2.2⟩
  have J33 : ∀ (t0_33 : Int) (ls : Array Slot), (xR t0_33) → (t0_33 = zcl q9 (zYr s0)) → lv_has ls 6 [(0, .ref (h0 + 268))] → W p l e { frames := 7, cells := 0, slots := 0, locals := 162 } s m args below meth c H locs 0 0 Q (F0 m 33 ls [.int (xJ t0_33)]) := by
    intro t0_33 ls rt0_33 v33_0  hl
    refine lv_istore_n (lv' := [(2, .int (xJ t0_33)), (0, .ref (h0 + 268))]) hx hb dX11_shadesGo_33 rfl hl (by decide) rfl (fun ls hl => ?_)
    refine x_aload_n hx hb hl 1 rfl dX11_shadesGo_34 rfl ?_
    refine x_aload_n hx hb hl 1 rfl dX11_shadesGo_35 rfl ?_
    refine x_get (j := 43) (v := .int (xJ (s25 268 43))) hx hb hown hT hE hW cls_X11 (Or.inl (by decide)) (so_268 h0 g _) (by decide) rfl wq1228 dX11_shadesGo_36 ?_
    refine x_rd hW (fun x38 ex38 rx38 => ?_)
    have V36 : x38 = zYr s0 47 := by
      rw [ex38, G22]
      rfl
    refine x_iload_n hx hb hl 0 rfl dX11_shadesGo_39 rfl ?_
    have J48 : ∀ (t0_48 : Int) (ls : Array Slot), (xR t0_48) → (t0_48 = zcl q9 (zYr s0)) → lv_has ls 6 [(0, .ref (h0 + 268)), (2, .int (xJ t0_33))] → W p l e { frames := 7, cells := 0, slots := 0, locals := 162 } s m args below meth c H locs 0 0 Q (F0 m 48 ls [.int (xJ t0_48), .int (xJ x38), .ref (h0 + 268)]) := by
      intro t0_48 ls rt0_48 v48_0  hl
      refine x_iadd hx hb dX11_shadesGo_48 ?_
      refine x_wv (fun x39 ex39 rx39 => ?_)
      have W48 := ex39
      refine x_put (j := 43) hx hb hown hT hE hW cls_X11 (by decide) (fun σ => so_268 h0 g σ) (by decide) (st_X11_43 h0 s25 268 x39) (ln_X11_43 h0 _ _) wq1228 rfl rfl rfl rx39 dX11_shadesGo_49 (fun H locs s40 es40 hW => ?_)
      have q41 : s40 268 8 = s0 268 8 := (show s40 268 8 = s25 268 8 from by rw [es40, xU_j _ _ (by decide)]).trans q28
      have q42 : s40 268 58 = s0 268 58 := (show s40 268 58 = s25 268 58 from by rw [es40, xU_j _ _ (by decide)]).trans q29
      have q43 : s40 268 17 = s0 268 17 := (show s40 268 17 = s25 268 17 from by rw [es40, xU_j _ _ (by decide)]).trans q30
      have q44 : s40 268 48 = s0 268 48 := (show s40 268 48 = s25 268 48 from by rw [es40, xU_j _ _ (by decide)]).trans q31
      have q45 : s40 269 0 = s0 269 0 := (show s40 269 0 = s25 269 0 from by rw [es40, xU_k _ _ _ (by first | decide | omega)]).trans q32
      have q46 : s40 269 1 = s0 269 1 := (show s40 269 1 = s25 269 1 from by rw [es40, xU_k _ _ _ (by first | decide | omega)]).trans q33
      have q47 : s40 269 2 = s0 269 2 := (show s40 269 2 = s25 269 2 from by rw [es40, xU_k _ _ _ (by first | decide | omega)]).trans q34
      have q48 : s40 269 3 = s0 269 3 := (show s40 269 3 = s25 269 3 from by rw [es40, xU_k _ _ _ (by first | decide | omega)]).trans q35
      have q49 : s40 269 34 = s0 269 34 := (show s40 269 34 = s25 269 34 from by rw [es40, xU_k _ _ _ (by first | decide | omega)]).trans q36
      have q50 : s40 269 37 = s0 269 37 := (show s40 269 37 = s25 269 37 from by rw [es40, xU_k _ _ _ (by first | decide | omega)]).trans q37
      have q51 : IMn s40 := by rw [es40]; exact IMn_268 hp26.1.1 (by omega)
      have q52 : IMk s40 := by rw [es40]; exact IMk_268 hp26.1.2.1 (by omega)
      have q53 : IMo s40 := by rw [es40]; exact IMo_o (by unfold suIMo; first | decide | omega) hp26.1.2.2.1
      have hF54 := hF27.put es40 (by omega)
      have E49 := es40
      have N49 : s40 269 = s25 269 := by rw [E49, xU_k _ _ _ (by first | decide | omega)]
      have Y49 : zYr s40 = zb3 q9 (zYr s0) := by
        have a : zYr s40 = xud (zYr s25) 47 x39 := by
          show zYN (s40 269) (s40 268 42) (s40 268 43) (s40 268 44) = _
          rw [N49, E49, xU_j _ _ (show (42 : Int) ≠ 43 from by decide), xU_j _ _ (show (44 : Int) ≠ 43 from by decide), xU_s]
          exact zYN_uc
        rw [a, Y22, W48, V36]
        unfold zb3
        by_cases c : zcl q9 (zYr s0) = 0
        · rw [if_neg (fun q => q c), show zYr s0 47 + _ = zYr s0 47 from by omega, zwp_id (by omega)]
          exact (zxud_e (by rw [xud_o _ _ (by decide)])).symm
        · have r := zcl_r q9 (zYr s0)
          rw [if_pos c, show zYr s0 47 + _ = zYr s0 47 + 1 from by omega]
      have G49 : s40 268 41 = s0 268 41 ∧ s40 268 48 = s0 268 48 := by rw [E49, xU_j _ _ (by decide), xU_j _ _ (by decide), G22]; exact ⟨rfl, rfl⟩
      have P49 : s40 269 35 = s0 269 35 ∧ s40 269 36 = s0 269 36 := by rw [N49]; exact P22
      have e34 : s40 269 34 = s0 269 34 := by omega
      have e0 : s40 269 0 = s0 269 0 := by omega
      have e1 : s40 269 1 = s0 269 1 := by omega
      have hG49 : ∀ j : Int, 0 ≤ j → j < 2 → xsh (s40 269 34) j % 2 = 1 → K9 (s40 269 j) ≠ 1 := fun j j1 j2 c => by
        rw [e34] at c
        rcases (by omega : j = 0 ∨ j = 1) with rfl | rfl
        · rw [e0]; exact hG 0 (by decide) (by decide) c
        · rw [e1]; exact hG 1 (by decide) (by decide) c
      have hN49 : zrj (s40 269) 0 ≠ zrj (s40 269) 1 ∨ zrj (s40 269) 0 = -1 := by rw [zrj_c e0 e34, zrj_c e1 e34]; exact hN
      have J49 : zrj (s40 269) 0 = zb3 q9 (zYr s0) 0 ∧ zrj (s40 269) 1 = zb3 q9 (zYr s0) 1 := by rw [← Y49]; exact ⟨rfl, rfl⟩
      refine x_aload_n hx hb hl 0 rfl dX11_shadesGo_52 rfl ?_
      refine x_aload_n hx hb hl 0 rfl dX11_shadesGo_53 rfl ?_
      refine x_get (j := 0) (v := .ref (h0 + 269)) hx hb hown hT hE hW cls_X11 (Or.inl (by decide)) (so_268 h0 g _) (by decide) rfl wq1185 dX11_shadesGo_54 ?_
      refine x_bipush hx hb dX11_shadesGo_57 (by decide) ?_
      refine x_iald hx hb hE hW (Or.inl (by decide)) (sa_269 h0 g _) ⟨by decide, by decide⟩ (by decide) dX11_shadesGo_59 ?_
      refine x_rd hW (fun x55 ex55 rx55 => ?_)
      have bx55 : 0 ≤ x55 ∧ x55 ≤ 9999 := by rw [ex55]; exact (IMn.n1 q51).2.2.2.1
      have fx55 : x55 = s0 269 37 := ex55.trans q50
      have V59 : x55 = zYr s0 44 := by
        show _ = s0 269 37
        omega
      refine x_iload_n hx hb hl 1 rfl dX11_shadesGo_60 rfl ?_
      refine x_gov (x_runV (As := [.int (xJ x55), .int (xJ t0_33)]) hx hb hml hown hT hE hW hl.1 (Or.inl (by decide)) (so_268 h0 g _) rfl cf_X11_laysShades wq1588 wq139 wq1586 (c_X11_laysShadesF l D g T h0 s40 hW.2.1 x55 rx55 t0_33 rt0_33 q9 K9 l9 (hok) (by first | exact hlr | exact hlr.f (fun k hk => hF54 k (by omega)) (by omega)) (by first | exact hK | exact fun t t1 t2 => by rw [hF54 272 (by first | decide | omega)]; exact hK t t1 t2) (by first | exact hlm | exact fun i i1 i2 => by rw [hF54 273 (by first | decide | omega)]; exact hlm i i1 i2) (hG49) (hN49) (by omega) q51 q52 q53) ⟨rfl, rfl, ⟨by decide, by decide⟩, ⟨by decide, by decide⟩⟩ rfl rfl (Nat.le_of_ble_eq_true rfl) dX11_shadesGo_61) hW (fun s57 H locs hp58 hW => ?_)
      obtain ⟨fs57, hp58⟩ := hp58
      have hF59 := hF54.call fs57 (fun k h => by omega)
      have q60 : s57 268 8 = s0 268 8 := (congrFun (fs57 _ (by omega)) _).trans q41
      have q61 : s57 268 58 = s0 268 58 := (congrFun (fs57 _ (by omega)) _).trans q42
      have q62 : s57 268 17 = s0 268 17 := (congrFun (fs57 _ (by omega)) _).trans q43
      have q63 : s57 268 48 = s0 268 48 := (congrFun (fs57 _ (by omega)) _).trans q44
      have q64 : s57 269 0 = s0 269 0 := (congrFun (fs57 _ (by omega)) _).trans q45
      have q65 : s57 269 1 = s0 269 1 := (congrFun (fs57 _ (by omega)) _).trans q46
      have q66 : s57 269 2 = s0 269 2 := (congrFun (fs57 _ (by omega)) _).trans q47
      have q67 : s57 269 3 = s0 269 3 := (congrFun (fs57 _ (by omega)) _).trans q48
      have q68 : s57 269 34 = s0 269 34 := (congrFun (fs57 _ (by omega)) _).trans q49
      have q69 : s57 269 37 = s0 269 37 := (congrFun (fs57 _ (by omega)) _).trans q50
      have ghp58 := hp58.2
      have H61 := ghp58
      have L61 : ∀ t : Int, 0 ≤ t → t < 100 → s57 295 t = zbL K9 q9 l9 (zYr s0) t := fun t t1 t2 => by
        rw [H61 t t1 t2, V59, zLy_J (J := zb3 q9 (zYr s0)) J49.1 J49.2]
        unfold zbL
        refine zLy_o ?_
        by_cases c : zcl q9 (zYr s0) = 0
        · rw [if_pos (by omega), if_neg (fun q => q c)]
        · rw [if_neg (by omega), if_pos c]
      have Y61 : zYr s57 = zb3 q9 (zYr s0) := (zYr_f (fs57 269 (by first | decide | omega)) (fs57 268 (by first | decide | omega))).trans Y49
      have G61 : s57 269 = s40 269 ∧ s57 268 = s40 268 := ⟨fs57 269 (by first | decide | omega), fs57 268 (by first | decide | omega)⟩
      refine x_aload_n hx hb hl 0 rfl dX11_shadesGo_64 rfl ?_
      refine x_aload_n hx hb hl 0 rfl dX11_shadesGo_65 rfl ?_
      refine x_get (j := 0) (v := .ref (h0 + 269)) hx hb hown hT hE hW cls_X11 (Or.inl (by decide)) (so_268 h0 g _) (by decide) rfl wq1185 dX11_shadesGo_66 ?_
      refine x_bipush hx hb dX11_shadesGo_69 (by decide) ?_
      refine x_iald hx hb hE hW (Or.inl (by decide)) (sa_269 h0 g _) ⟨by decide, by decide⟩ (by decide) dX11_shadesGo_71 ?_
      refine x_rd hW (fun x70 ex70 rx70 => ?_)
      have bx70 : 0 ≤ x70 ∧ x70 ≤ 9999 := by rw [ex70]; exact (IMn.n1 hp58.1.1).2.2.2.1
      have fx70 : x70 = s0 269 37 := ex70.trans q69
      have V71 : x70 = zYr s0 44 := by
        show _ = s0 269 37
        omega
      refine x_goi (x_runV (As := [.int (xJ x70)]) hx hb hml hown hT hE hW hl.1 (Or.inl (by decide)) (so_268 h0 g _) rfl cf_X11_isNight wq1604 wq143 wq1602 (c_X11_isNightF l D g T h0 s57 hW.2.1 x70 rx70 q9 (hok) (by first | exact hlr | exact hlr.f (fun k hk => hF59 k (by omega)) (by omega)) (by omega) hp58.1.1 hp58.1.2.1 hp58.1.2.2.1) ⟨rfl, rfl, ⟨by decide, by decide⟩, ⟨by decide, by decide⟩⟩ rfl rfl (Nat.le_of_ble_eq_true rfl) dX11_shadesGo_72) hW (fun x71 s72 H locs rx71 hp73 hW => ?_)
      obtain ⟨fs72, hp73⟩ := hp73
      have hF74 := hF59.call fs72 (fun k h => by omega)
      have q75 : s72 268 8 = s0 268 8 := (congrFun (fs72 _ (by omega)) _).trans q60
      have q76 : s72 268 58 = s0 268 58 := (congrFun (fs72 _ (by omega)) _).trans q61
      have q77 : s72 268 17 = s0 268 17 := (congrFun (fs72 _ (by omega)) _).trans q62
      have q78 : s72 268 48 = s0 268 48 := (congrFun (fs72 _ (by omega)) _).trans q63
      have q79 : s72 269 0 = s0 269 0 := (congrFun (fs72 _ (by omega)) _).trans q64
      have q80 : s72 269 1 = s0 269 1 := (congrFun (fs72 _ (by omega)) _).trans q65
      have q81 : s72 269 2 = s0 269 2 := (congrFun (fs72 _ (by omega)) _).trans q66
      have q82 : s72 269 3 = s0 269 3 := (congrFun (fs72 _ (by omega)) _).trans q67
      have q83 : s72 269 34 = s0 269 34 := (congrFun (fs72 _ (by omega)) _).trans q68
      have q84 : s72 269 37 = s0 269 37 := (congrFun (fs72 _ (by omega)) _).trans q69
      have ghp73 := hp73.2
      have R72 : x71 = zni q9 (zYr s0 44) := by rw [← V71]; exact ghp73
      have G72 : s72 269 = s40 269 ∧ s72 268 = s40 268 := ⟨(fs72 269 (by first | decide | omega)).trans G61.1, (fs72 268 (by first | decide | omega)).trans G61.2⟩
      have Y72 : zYr s72 = zb3 q9 (zYr s0) := (zYr_f G72.1 G72.2).trans Y49
      have L72 : ∀ t : Int, 0 ≤ t → t < 100 → s72 295 t = zbL K9 q9 l9 (zYr s0) t := fun t t1 t2 => by rw [fs72 295 (by first | decide | omega)]; exact L61 t t1 t2
      refine lv_istore_n (lv' := [(3, .int (xJ x71)), (0, .ref (h0 + 268)), (2, .int (xJ t0_33))]) hx hb dX11_shadesGo_75 rfl hl (by decide) rfl (fun ls hl => ?_)
      refine x_iconst hx hb dX11_shadesGo_76 ?_
      refine lv_istore (lv' := [(4, .int (xJ 0)), (3, .int (xJ x71)), (0, .ref (h0 + 268)), (2, .int (xJ t0_33))]) hx hb dX11_shadesGo_77 hl (by decide) rfl (fun ls hl => ?_)
      have L79 : ∀ (fu : Nat) (i4_79 : Int) (s_79 : xS) (H : Heap) (locs : List Loc) (ls : Array Slot), (xR i4_79) → (xFr (fun k => k = 268 ∨ k = 269 ∨ k = 293 ∨ k = 294 ∨ k = 295 ∨ k = 296 ∨ k = 297 ∨ k = 298 ∨ k = 299) s0 s_79) → (s_79 268 8 = s0 268 8) → (s_79 268 58 = s0 268 58) → (s_79 268 17 = s0 268 17) → (s_79 268 48 = s0 268 48) → (s_79 269 0 = s0 269 0) → (s_79 269 1 = s0 269 1) → (s_79 269 2 = s0 269 2) → (s_79 269 3 = s0 269 3) → (s_79 269 34 = s0 269 34) → (s_79 269 37 = s0 269 37) → (IMn s_79) → (IMk s_79) → (IMo s_79) → (0 ≤ i4_79 ∧ i4_79 ≤ 100) → (∀ t : Int, 0 ≤ t → t < i4_79 → s_79 299 t = 0) → (s_79 269 = s72 269 ∧ s_79 268 = s72 268 ∧ s_79 295 = s72 295) → (100 - i4_79).toNat < fu → xW D g h0 s H locs s_79 → lv_has ls 6 [(0, .ref (h0 + 268)), (3, .int (xJ x71)), (4, .int (xJ i4_79))] → W p l e { frames := 7, cells := 0, slots := 0, locals := 162 } s m args below meth c H locs 0 0 Q (F0 m 79 ls []) := by
        intro fu
        induction fu with
        | zero => intro i4_79 s_79 H locs ls ri4_79 hF_79 q79_0 q79_1 q79_2 q79_3 q79_4 q79_5 q79_6 q79_7 q79_8 q79_9 q79_10 q79_11 q79_12 v79_0 v79_1 v79_2 hm; exact absurd hm (Nat.not_lt_zero _)
        | succ fu ih79 =>
          intro i4_79 s_79 H locs ls ri4_79 hF_79 q79_0 q79_1 q79_2 q79_3 q79_4 q79_5 q79_6 q79_7 q79_8 q79_9 q79_10 q79_11 q79_12 v79_0 v79_1 v79_2 hm hW hl
          have hm_79 := fun (_ : Unit) => hm
          clear hm
          refine x_iload hx hb hl 2 rfl dX11_shadesGo_79 ?_
          refine x_bipush hx hb dX11_shadesGo_81 (by decide) ?_
          refine x_icmp_ge (tgt := 100) hx hb ri4_79 (by decide) dX11_shadesGo_83 (by decide) (fun c85 => ?_) (fun c85 => ?_)
          · skip
            refine x_aload_n hx hb hl 0 rfl dX11_shadesGo_100 rfl ?_
            refine x_goi (x_runV (As := []) hx hb hml hown hT hE hW hl.1 (Or.inl (by decide)) (so_268 h0 g _) rfl cf_X11_laysOrder wq1616 wq146 wq1614 (c_X11_laysOrderF l D g T h0 s_79 hW.2.1 q9 K9 (hok) (by first | exact hlr | exact hlr.f (fun k hk => hF_79 k (by omega)) (by omega)) (by first | exact hK | exact fun t t1 t2 => by rw [hF_79 272 (by first | decide | omega)]; exact hK t t1 t2) q79_10 q79_11 q79_12) ⟨rfl, rfl, ⟨by decide, by decide⟩, ⟨by decide, by decide⟩⟩ rfl rfl (Nat.le_of_ble_eq_true rfl) dX11_shadesGo_101) hW (fun x86 s87 H locs rx86 hp88 hW => ?_)
            obtain ⟨fs87, hp88⟩ := hp88
            have hF89 := hF_79.call fs87 (fun k h => by omega)
            have q90 : s87 268 8 = s0 268 8 := (congrFun (fs87 _ (by omega)) _).trans q79_0
            have q91 : s87 268 58 = s0 268 58 := (congrFun (fs87 _ (by omega)) _).trans q79_1
            have q92 : s87 268 17 = s0 268 17 := (congrFun (fs87 _ (by omega)) _).trans q79_2
            have q93 : s87 268 48 = s0 268 48 := (congrFun (fs87 _ (by omega)) _).trans q79_3
            have q94 : s87 269 0 = s0 269 0 := (congrFun (fs87 _ (by omega)) _).trans q79_4
            have q95 : s87 269 1 = s0 269 1 := (congrFun (fs87 _ (by omega)) _).trans q79_5
            have q96 : s87 269 2 = s0 269 2 := (congrFun (fs87 _ (by omega)) _).trans q79_6
            have q97 : s87 269 3 = s0 269 3 := (congrFun (fs87 _ (by omega)) _).trans q79_7
            have q98 : s87 269 34 = s0 269 34 := (congrFun (fs87 _ (by omega)) _).trans q79_8
            have q99 : s87 269 37 = s0 269 37 := (congrFun (fs87 _ (by omega)) _).trans q79_9
            have ghp88 := hp88.2
            have H101 := ghp88
            have Y100 : zYr s_79 = zb3 q9 (zYr s0) := (zYr_f v79_2.1 v79_2.2.1).trans Y72
            have A100 : s_79 268 48 = s0 268 48 := by rw [v79_2.2.1, G72.2]; exact G49.2
            rw [Y100, A100] at H101
            have Y104 : zYr s87 = zb3 q9 (zYr s0) := (zYr_f (fs87 269 (by first | decide | omega)) (fs87 268 (by first | decide | omega))).trans Y100
            have L104 : ∀ t : Int, 0 ≤ t → t < 100 → s87 295 t = zbL K9 q9 l9 (zYr s0) t := fun t t1 t2 => by rw [fs87 295 (by first | decide | omega), v79_2.2.2]; exact L72 t t1 t2
            have T104 : ∀ t : Int, 0 ≤ t → t < 100 → s87 299 t = 0 := fun t t1 t2 => by rw [fs87 299 (by first | decide | omega)]; exact v79_1 t t1 (by omega)
            have B104 : ∀ t : Int, 0 ≤ t → t < 100 → 0 ≤ s87 295 t ∧ s87 295 t ≤ 1000 := fun t t1 t2 => by rw [L104 t t1 t2]; exact zLy_r _ _ _ _ _ _ _ _
            have q104 : zYq (zYr s87) := by rw [Y104]; exact zb3_q hY
            have N104 : (0 ≤ s87 269 36 ∧ s87 269 36 < 1024) ∧ s87 269 35 = s0 269 35 ∧ s87 268 48 = s0 268 48 := by rw [fs87 269 (by first | decide | omega), fs87 268 (by first | decide | omega), v79_2.1, v79_2.2.1, G72.1, G72.2, P49.2, P49.1, G49.2]; exact ⟨hB, rfl, rfl⟩
            have S104 : s87 268 41 = s0 268 41 ∧ zSm (zYr s87) = zSm (zYr s0) := ⟨by rw [fs87 268 (by first | decide | omega), v79_2.2.1, G72.2]; exact G49.1, by rw [Y104]; exact zSm_o (fun g g1 g2 => zb3_o (by omega))⟩
            refine lv_istore (lv' := [(4, .int (xJ x86)), (0, .ref (h0 + 268)), (3, .int (xJ x71))]) hx hb dX11_shadesGo_104 hl (by decide) rfl (fun ls hl => ?_)
            refine x_iconst hx hb dX11_shadesGo_106 ?_
            refine lv_istore (lv' := [(5, .int (xJ 0)), (4, .int (xJ x86)), (0, .ref (h0 + 268)), (3, .int (xJ x71))]) hx hb dX11_shadesGo_107 hl (by decide) rfl (fun ls hl => ?_)
            have L109 : ∀ (fu : Nat) (i5_109 : Int) (s_109 : xS) (H : Heap) (locs : List Loc) (ls : Array Slot), (xR i5_109) → (xFr (fun k => k = 268 ∨ k = 269 ∨ k = 293 ∨ k = 294 ∨ k = 295 ∨ k = 296 ∨ k = 297 ∨ k = 298 ∨ k = 299) s0 s_109) → (s_109 268 8 = s0 268 8) → (s_109 268 58 = s0 268 58) → (s_109 268 17 = s0 268 17) → (s_109 268 48 = s0 268 48) → (s_109 269 0 = s0 269 0) → (s_109 269 1 = s0 269 1) → (s_109 269 2 = s0 269 2) → (s_109 269 3 = s0 269 3) → (s_109 269 34 = s0 269 34) → (s_109 269 37 = s0 269 37) → (IMn s_109) → (IMk s_109) → (IMo s_109) → (0 ≤ i5_109 ∧ i5_109 ≤ x86) → ((zYr s_109, s_109 299) = zgo K9 q9 (s87 295) x71 (zls (s87 297) 0 (i5_109).toNat) (zYr s87, s87 299)) → (s_109 295 = s87 295 ∧ s_109 297 = s87 297) → (s_109 268 41 = s87 268 41 + zSm (zYr s87) - zSm (zYr s_109) ∧ zSm (zYr s_109) ≤ zSm (zYr s87)) → (zYq (zYr s_109)) → ((0 ≤ s_109 269 36 ∧ s_109 269 36 < 1024) ∧ s_109 269 35 = s0 269 35 ∧ s_109 268 48 = s0 268 48) → (x86 - i5_109).toNat < fu → xW D g h0 s H locs s_109 → lv_has ls 6 [(0, .ref (h0 + 268)), (3, .int (xJ x71)), (4, .int (xJ x86)), (5, .int (xJ i5_109))] → W p l e { frames := 7, cells := 0, slots := 0, locals := 162 } s m args below meth c H locs 0 0 Q (F0 m 109 ls []) := by
              intro fu
              induction fu with
              | zero => intro i5_109 s_109 H locs ls ri5_109 hF_109 q109_0 q109_1 q109_2 q109_3 q109_4 q109_5 q109_6 q109_7 q109_8 q109_9 q109_10 q109_11 q109_12 v109_0 v109_1 v109_2 v109_3 v109_4 v109_5 hm; exact absurd hm (Nat.not_lt_zero _)
              | succ fu ih109 =>
                intro i5_109 s_109 H locs ls ri5_109 hF_109 q109_0 q109_1 q109_2 q109_3 q109_4 q109_5 q109_6 q109_7 q109_8 q109_9 q109_10 q109_11 q109_12 v109_0 v109_1 v109_2 v109_3 v109_4 v109_5 hm hW hl
                have hm_109 := fun (_ : Unit) => hm
                clear hm
                refine x_iload hx hb hl 3 rfl dX11_shadesGo_109 ?_
                refine x_iload hx hb hl 2 rfl dX11_shadesGo_111 ?_
                refine x_icmp_ge (tgt := 134) hx hb ri5_109 rx86 dX11_shadesGo_113 (by decide) (fun c100 => ?_) (fun c100 => ?_)
                · skip
                  refine x_aload_n hx hb hl 0 rfl dX11_shadesGo_134 rfl ?_
                  refine x_get (j := 0) (v := .ref (h0 + 269)) hx hb hown hT hE hW cls_X11 (Or.inl (by decide)) (so_268 h0 g _) (by decide) rfl wq1185 dX11_shadesGo_135 ?_
                  refine x_bipush hx hb dX11_shadesGo_138 (by decide) ?_
                  refine x_aload_n hx hb hl 0 rfl dX11_shadesGo_140 rfl ?_
                  refine x_get (j := 0) (v := .ref (h0 + 269)) hx hb hown hT hE hW cls_X11 (Or.inl (by decide)) (so_268 h0 g _) (by decide) rfl wq1185 dX11_shadesGo_141 ?_
                  refine x_bipush hx hb dX11_shadesGo_144 (by decide) ?_
                  refine x_iald hx hb hE hW (Or.inl (by decide)) (sa_269 h0 g _) ⟨by decide, by decide⟩ (by decide) dX11_shadesGo_146 ?_
                  refine x_rd hW (fun x101 ex101 rx101 => ?_)
                  have bx101 : 0 ≤ x101 ∧ x101 ≤ 9999 := by rw [ex101]; exact (IMn.n1 q109_10).2.2.2.1
                  have fx101 : x101 = s0 269 37 := ex101.trans q109_9
                  refine x_iconst hx hb dX11_shadesGo_147 ?_
                  refine x_iadd hx hb dX11_shadesGo_148 ?_
                  refine x_iast hx hb hE hW (by decide) (fun σ => sa_269 h0 g σ) ⟨by decide, by decide⟩ (by decide) (by omega) dX11_shadesGo_149 (fun H locs s102 es102 hW => ?_)
                  have q103 : s102 268 8 = s0 268 8 := (show s102 268 8 = s_109 268 8 from by rw [es102, xU_k _ _ _ (by first | decide | omega)]).trans q109_0
                  have q104 : s102 268 58 = s0 268 58 := (show s102 268 58 = s_109 268 58 from by rw [es102, xU_k _ _ _ (by first | decide | omega)]).trans q109_1
                  have q105 : s102 268 17 = s0 268 17 := (show s102 268 17 = s_109 268 17 from by rw [es102, xU_k _ _ _ (by first | decide | omega)]).trans q109_2
                  have q106 : s102 268 48 = s0 268 48 := (show s102 268 48 = s_109 268 48 from by rw [es102, xU_k _ _ _ (by first | decide | omega)]).trans q109_3
                  have q107 : s102 269 0 = s0 269 0 := (show s102 269 0 = s_109 269 0 from by rw [es102, xU_j _ _ (by decide)]).trans q109_4
                  have q108 : s102 269 1 = s0 269 1 := (show s102 269 1 = s_109 269 1 from by rw [es102, xU_j _ _ (by decide)]).trans q109_5
                  have q109 : s102 269 2 = s0 269 2 := (show s102 269 2 = s_109 269 2 from by rw [es102, xU_j _ _ (by decide)]).trans q109_6
                  have q110 : s102 269 3 = s0 269 3 := (show s102 269 3 = s_109 269 3 from by rw [es102, xU_j _ _ (by decide)]).trans q109_7
                  have q111 : s102 269 34 = s0 269 34 := (show s102 269 34 = s_109 269 34 from by rw [es102, xU_j _ _ (by decide)]).trans q109_8
                  have q112 : s102 269 37 = (x101 + 1) := by rw [es102, xU_s]
                  have q113 : IMn s102 := by rw [es102]; exact IMn_N269 q109_10 (by omega)
                  have q114 : IMk s102 := by rw [es102]; exact IMk_o (by unfold suIMk; first | decide | omega) q109_11
                  have q115 : IMo s102 := by rw [es102]; exact IMo_o (by unfold suIMo; first | decide | omega) q109_12
                  have hF116 := hF_109.put es102 (by omega)
                  have E149 := es102
                  rw [eQ]
                  exact x_vret hx hb hr hlk hW ⟨hF116, ⟨q113, q114, q115, q103, q104, q107, q108, q109, q110, q111, q105, q106, trivial⟩, by
                      have e := congrArg Prod.fst v109_1
                      have e : zYr s_109 = _ := e
                      have z : zYr s_109 = zb4 K9 q9 l9 (s0 268 48) (zYr s0) := by
                        rw [e, show (i5_109).toNat = (x86).toNat from by omega, H101.2, Y104, R72]
                        unfold zb4
                        rw [zlu_tp (tp := 1000000000) (tp2 := 1000) (by decide) (by decide)]
                        exact (zgo_cg (L := zbL K9 q9 l9 (zYr s0)) (T := fun _ => 0) L104 T104 _).1
                      have N : s102 269 = xud (s_109 269) 37 (s0 269 37 + 1) := by rw [E149, xU_xud, show x101 = s0 269 37 from by omega]
                      have y : zYr s102 = zmB K9 q9 l9 (s0 268 48) (zYr s0) := by
                        show zYN (s102 269) (s102 268 42) (s102 268 43) (s102 268 44) = _
                        rw [N, E149, xU_k _ _ _ (show 268 ≠ 269 from by decide), zYN_u37]
                        unfold zmB
                        rw [← z]
                        rfl
                      have y2 : zSm (zYr s102) = zSm (zYr s_109) := zSm_o (fun g g1 g2 => by rw [y, z]; exact xud_o _ _ (by omega))
                      refine ⟨y, ?_, ?_, ?_, ?_, ?_, by rw [N, xud_s], by have a := v109_3.2; have b := S104.2; omega⟩
                      · rw [y2, E149, xU_k _ _ _ (show 268 ≠ 269 from by decide)]
                        have a := v109_3.1
                        have b := S104
                        omega
                      · rw [N, xud_o _ _ (by decide)]; exact v109_5.1
                      · rw [N, xud_o _ _ (by decide)]; exact v109_5.2.1
                      · rw [E149, xU_k _ _ _ (show 268 ≠ 269 from by decide)]; exact v109_5.2.2
                      · rw [y]
                        unfold zmB
                        rw [← z]
                        intro f f1 f2
                        rw [xud_o _ _ (by omega), xud_o _ _ (by omega), xud_o _ _ (by omega), xud_o _ _ (by omega)]
                        exact v109_4 f f1 f2⟩ dX11_shadesGo_150
                refine x_aload_n hx hb hl 0 rfl dX11_shadesGo_116 rfl ?_
                refine x_aload_n hx hb hl 0 rfl dX11_shadesGo_117 rfl ?_
                refine x_get (j := 46) (v := .ref (h0 + 297)) hx hb hown hT hE hW cls_X11 (Or.inl (by decide)) (so_268 h0 g _) (by decide) rfl wq1231 dX11_shadesGo_118 ?_
                refine x_iload hx hb hl 3 rfl dX11_shadesGo_121 ?_
                refine x_iald hx hb hE hW (Or.inl (by decide)) (sa_297 h0 g _) (by omega) (by decide) dX11_shadesGo_123 ?_
                refine x_rd hW (fun x117 ex117 rx117 => ?_)
                have bx117 : 0 ≤ x117 ∧ x117 ≤ 9 := by rw [ex117]; exact IMo.a q109_12 _ (by omega) (by omega)
                have V123 : x117 = s87 297 i5_109 := by rw [ex117, v109_2.2]
                have m123 := zlu_mem (x := x117) (by rw [V123, ← H101.2]; exact zls_mem (by omega) (by omega))
                have f123 : (0 ≤ x117 ∧ x117 < 10) ∧ xsh (s0 269 35) x117 % 2 = 1 := by
                  have b : 0 ≤ x117 ∧ x117 < 10 := ⟨m123.1, m123.2.1⟩
                  refine ⟨b, ?_⟩
                  have y := m123.2.2.1
                  rw [zb3_o (by omega)] at y
                  have y : zYN (s0 269) (s0 268 42) (s0 268 43) (s0 268 44) (4 + x117) ≠ -1 := y
                  rw [zYN_F b] at y
                  by_cases c : xsh (s0 269 35) x117 % 2 = 1
                  · exact c
                  · rw [if_neg c] at y; exact absurd rfl y
                refine x_iload_n hx hb hl 1 rfl dX11_shadesGo_124 rfl ?_
                refine x_gov (x_runV (As := [.int (xJ x117), .int (xJ x71)]) hx hb hml hown hT hE hW hl.1 (Or.inl (by decide)) (so_268 h0 g _) rfl cf_X11_servesOf wq1629 wq149 wq1627 (c_X11_servesOfF l D g T h0 s_109 hW.2.1 x117 rx117 x71 rx71 q9 K9 (hok) (by first | exact hlr | exact hlr.f (fun k hk => hF_109 k (by omega)) (by omega)) (by first | exact hK | exact fun t t1 t2 => by rw [hF_109 272 (by first | decide | omega)]; exact hK t t1 t2) (f123.1) (by rw [v109_5.2.1]; exact f123.2) (v109_4) (v109_5.1) (by rw [v109_2.1]; exact B104) (by have y := v109_3; have z := S104; have z2 := zSm_r v109_4; have z3 := zSm_r hY; omega) q109_10 q109_11 q109_12) ⟨rfl, rfl, ⟨by decide, by decide⟩, ⟨by decide, by decide⟩⟩ rfl rfl (Nat.le_of_ble_eq_true rfl) dX11_shadesGo_125) hW (fun s119 H locs hp120 hW => ?_)
                obtain ⟨fs119, hp120⟩ := hp120
                have hF121 := hF_109.call fs119 (fun k h => by omega)
                have ghp120 := hp120.2
                have H125 := ghp120
                have Q125 : zYq (zYr s119) ∧ (zSm (zYr s119) = zSm (zYr s_109) - zYr s_109 (14 + x117) + zYr s119 (14 + x117) ∧ zYr s119 (14 + x117) ≤ zYr s_109 (14 + x117)) := by
                  have e : zYr s119 = (zsv K9 q9 (s_109 295) x71 x117 (zYr s_109, s_109 299)).1 := congrArg Prod.fst H125.1
                  have z := zsv_q (K := K9) (q := q9) (L := s_109 295) (nt := x71) (T := s_109 299) f123.1 (fun t t1 t2 => by rw [v109_2.1]; exact (B104 t t1 t2).1) v109_4
                  rw [← e] at z
                  exact ⟨z.1, zSm_1 f123.1 (fun g g1 g2 g3 => by rw [e]; exact zsv_o f123.1 (by omega)), z.2.2⟩
                refine x_iinc (lv' := [(5, .int (xJ (i5_109 + 1))), (0, .ref (h0 + 268)), (3, .int (xJ x71)), (4, .int (xJ x86))]) hx hb hl 3 rfl dX11_shadesGo_128 (by decide) rfl (fun ls hl => ?_)
                refine lv_goto (tgt := 109) hx hb dX11_shadesGo_131 (by decide) ?_
                exact ih109 (i5_109 + 1) s119 H locs ls (by omega) hF121 (hp120.1.2.2.2.1.trans q109_0) (hp120.1.2.2.2.2.1.trans q109_1) (hp120.1.2.2.2.2.2.2.2.2.2.2.2.1.trans q109_2) (hp120.1.2.2.2.2.2.2.2.2.2.2.2.2.1.trans q109_3) (hp120.1.2.2.2.2.2.1.trans q109_4) (hp120.1.2.2.2.2.2.2.1.trans q109_5) (hp120.1.2.2.2.2.2.2.2.1.trans q109_6) (hp120.1.2.2.2.2.2.2.2.2.1.trans q109_7) (hp120.1.2.2.2.2.2.2.2.2.2.1.trans q109_8) (hp120.1.2.2.2.2.2.2.2.2.2.2.1.trans q109_9) hp120.1.1 hp120.1.2.1 hp120.1.2.2.1 (by omega) (by rw [show (i5_109 + 1).toNat = i5_109.toNat + 1 from by omega]; show _ = zsv K9 q9 (s87 295) x71 (s87 297 (0 + ((i5_109.toNat : Nat) : Int))) (zgo K9 q9 (s87 295) x71 (zls (s87 297) 0 i5_109.toNat) (zYr s87, s87 299)); rw [← v109_1, show (0 : Int) + ((i5_109.toNat : Nat) : Int) = i5_109 from by omega, ← V123, ← v109_2.1]; exact H125.1) (by rw [fs119 295 (by first | decide | omega), fs119 297 (by first | decide | omega)]; exact v109_2) (by
                    have y := H125.2.1
                    have z := Q125.2
                    have w := v109_3
                    omega) (Q125.1) (⟨H125.2.2.1, H125.2.2.2.1.trans v109_5.2.1, H125.2.2.2.2.trans v109_5.2.2⟩) (by have hm := hm_109 (); omega) hW (lv_sub hl [1, 2, 3, 0] rfl)
            exact L109 ((x86 - 0 : Int).toNat + 1) 0 s87 H locs ls (by decide) hF89 q90 q91 q92 q93 q94 q95 q96 q97 q98 q99 hp88.1.1 hp88.1.2.1 hp88.1.2.2.1 (by omega) (rfl) (⟨rfl, rfl⟩) (⟨by omega, Int.le_refl _⟩) (q104) (N104) (Nat.lt_succ_self _) hW (lv_sub hl [2, 3, 1, 0] rfl)
          refine x_aload_n hx hb hl 0 rfl dX11_shadesGo_86 rfl ?_
          refine x_get (j := 49) (v := .ref (h0 + 299)) hx hb hown hT hE hW cls_X11 (Or.inl (by decide)) (so_268 h0 g _) (by decide) rfl wq1234 dX11_shadesGo_87 ?_
          refine x_iload hx hb hl 2 rfl dX11_shadesGo_90 ?_
          refine x_iconst hx hb dX11_shadesGo_92 ?_
          refine x_zast hx hb hE hW (by decide) (fun σ => sa_299 h0 g σ) (by omega) (by decide) (by omega) dX11_shadesGo_93 (fun H locs s122 es122 hW => ?_)
          have q123 : s122 268 8 = s0 268 8 := (show s122 268 8 = s_79 268 8 from by rw [es122, xU_k _ _ _ (by first | decide | omega)]).trans q79_0
          have q124 : s122 268 58 = s0 268 58 := (show s122 268 58 = s_79 268 58 from by rw [es122, xU_k _ _ _ (by first | decide | omega)]).trans q79_1
          have q125 : s122 268 17 = s0 268 17 := (show s122 268 17 = s_79 268 17 from by rw [es122, xU_k _ _ _ (by first | decide | omega)]).trans q79_2
          have q126 : s122 268 48 = s0 268 48 := (show s122 268 48 = s_79 268 48 from by rw [es122, xU_k _ _ _ (by first | decide | omega)]).trans q79_3
          have q127 : s122 269 0 = s0 269 0 := (show s122 269 0 = s_79 269 0 from by rw [es122, xU_k _ _ _ (by first | decide | omega)]).trans q79_4
          have q128 : s122 269 1 = s0 269 1 := (show s122 269 1 = s_79 269 1 from by rw [es122, xU_k _ _ _ (by first | decide | omega)]).trans q79_5
          have q129 : s122 269 2 = s0 269 2 := (show s122 269 2 = s_79 269 2 from by rw [es122, xU_k _ _ _ (by first | decide | omega)]).trans q79_6
          have q130 : s122 269 3 = s0 269 3 := (show s122 269 3 = s_79 269 3 from by rw [es122, xU_k _ _ _ (by first | decide | omega)]).trans q79_7
          have q131 : s122 269 34 = s0 269 34 := (show s122 269 34 = s_79 269 34 from by rw [es122, xU_k _ _ _ (by first | decide | omega)]).trans q79_8
          have q132 : s122 269 37 = s0 269 37 := (show s122 269 37 = s_79 269 37 from by rw [es122, xU_k _ _ _ (by first | decide | omega)]).trans q79_9
          have q133 : IMn s122 := by rw [es122]; exact IMn_o (by unfold suIMn; first | decide | omega) q79_10
          have q134 : IMk s122 := by rw [es122]; exact IMk_o (by unfold suIMk; first | decide | omega) q79_11
          have q135 : IMo s122 := by rw [es122]; exact IMo_o (by unfold suIMo; first | decide | omega) q79_12
          have hF136 := hF_79.put es122 (by omega)
          have E93 := es122
          refine x_iinc (lv' := [(4, .int (xJ (i4_79 + 1))), (0, .ref (h0 + 268)), (3, .int (xJ x71))]) hx hb hl 2 rfl dX11_shadesGo_94 (by decide) rfl (fun ls hl => ?_)
          refine lv_goto (tgt := 79) hx hb dX11_shadesGo_97 (by decide) ?_
          exact ih79 (i4_79 + 1) s122 H locs ls (by omega) hF136 q123 q124 q125 q126 q127 q128 q129 q130 q131 q132 q133 q134 q135 (by omega) (fun t t1 t2 => by
            rw [E93, xU_xud]
            by_cases h : t = i4_79
            · subst h; rw [xud_s]
            · rw [xud_o _ _ h]; exact v79_1 t t1 (by omega)) (by rw [E93, xU_k _ _ _ (show 269 ≠ 299 from by decide), xU_k _ _ _ (show 268 ≠ 299 from by decide), xU_k _ _ _ (show 295 ≠ 299 from by decide)]; exact v79_2) (by have hm := hm_79 (); omega) hW (lv_sub hl [1, 2, 0] rfl)
      exact L79 ((100 - 0 : Int).toNat + 1) 0 s72 H locs ls (by decide) hF74 q75 q76 q77 q78 q79 q80 q81 q82 q83 q84 hp73.1.1 hp73.1.2.1 hp73.1.2.2.1 (by omega) (fun t t1 t2 => absurd t2 (by omega)) (⟨rfl, rfl, rfl⟩) (Nat.lt_succ_self _) hW (lv_sub hl [2, 1, 0] rfl)
    refine x_if_eq (tgt := 47) hx hb rt0_33 dX11_shadesGo_40 (by decide) (fun c137 => ?_) (fun c137 => ?_)
    · skip
      refine x_iconst hx hb dX11_shadesGo_47 ?_
      exact J48 0 ls (by decide) (by omega)  (lv_sub hl [1, 0] rfl)
    refine x_iconst hx hb dX11_shadesGo_43 ?_
    refine lv_goto (tgt := 48) hx hb dX11_shadesGo_44 (by decide) ?_
    exact J48 1 ls (by decide) (by omega)  (lv_sub hl [1, 0] rfl)
  refine x_icmp_ge (tgt := 32) hx hb rx1 rx24 dX11_shadesGo_25 (by decide) (fun c138 => ?_) (fun c138 => ?_)
  · skip
    refine x_iconst hx hb dX11_shadesGo_32 ?_
    exact J33 0 ls (by decide) (by omega)  (lv_sub hl [1] rfl)
  refine x_iconst hx hb dX11_shadesGo_28 ?_
  refine lv_goto (tgt := 33) hx hb dX11_shadesGo_29 (by decide) ?_
  exact J33 1 ls (by decide) (by omega)  (lv_sub hl [1] rfl)

set_option maxHeartbeats 4000000 in
set_option maxRecDepth 100000 in
theorem c_X11_beginsF (l : Launch) (D : va_G) (g : xG) (T : Nat × Nat × Nat) (h0 : Nat) (s0 : xS) (hσ : xRR s0) (p0 : IMn s0) (p1 : IMk s0) (p2 : IMo s0) : Met l yX11_begins (xws yX11_begins cX11_begins 1 none) { frames := 0, cells := 0, slots := 0, locals := 0 } (xP [.ref (h0 + 268)] D g T h0 s0) (xQv D g h0 (fun τ => xFr (fun k => k = 268) s0 τ ∧ (((IMn τ) ∧ (IMk τ) ∧ (IMo τ) ∧ (τ 268 8 = s0 268 8) ∧ (τ 268 58 = s0 268 58) ∧ (τ 268 17 = s0 268 17) ∧ (τ 268 48 = s0 268 48) ∧ True) ∧ (τ 268 41 = 0 ∧ τ 268 42 = 0 ∧ τ 268 43 = 0 ∧ τ 268 44 = 0 ∧ τ 268 48 = s0 268 48)))) 0 0 (xA h0) := by
  refine x_met hσ (by decide) (Nat.le_of_ble_eq_true rfl) ?_
  intro p e s m args below meth c hx hb hr hml hown hT hlk hnm hE hW ls hl
  have hl : lv_has ls 1 [(0, .ref (h0 + 268))] := hl
  obtain ⟨Q, eQ⟩ : ∃ Q, Q = MQ below (xQv D g h0 (fun τ => xFr (fun k => k = 268) s0 τ ∧ (((IMn τ) ∧ (IMk τ) ∧ (IMo τ) ∧ (τ 268 8 = s0 268 8) ∧ (τ 268 58 = s0 268 58) ∧ (τ 268 17 = s0 268 17) ∧ (τ 268 48 = s0 268 48) ∧ True) ∧ (τ 268 41 = 0 ∧ τ 268 42 = 0 ∧ τ 268 43 = 0 ∧ τ 268 44 = 0 ∧ τ 268 48 = s0 268 48)))) args s 0 0 (xA h0) := ⟨_, rfl⟩
  rw [← eQ]
  generalize hHe : ([] : List Loc) = locs at hW ⊢
  obtain ⟨H, eH⟩ : ∃ H, H = s.heap := ⟨_, rfl⟩
  rw [← eH] at hW ⊢
  have hF : xFr (fun k => k = 268) s0 s0 := xFr.rf
  have k268_8 : s0 268 8 = s0 268 8 := rfl
  have k268_58 : s0 268 58 = s0 268 58 := rfl
  have k268_17 : s0 268 17 = s0 268 17 := rfl
  have k268_48 : s0 268 48 = s0 268 48 := rfl
  refine x_aload_n hx hb hl 0 rfl dX11_begins_0 rfl ?_
  refine x_iconst hx hb dX11_begins_1 ?_
  refine x_put (j := 41) hx hb hown hT hE hW cls_X11 (by decide) (fun σ => so_268 h0 g σ) (by decide) (st_X11_41 h0 s0 268 0) (ln_X11_41 h0 _ _) wq1226 rfl rfl rfl (by decide) dX11_begins_2 (fun H locs s1 es1 hW => ?_)
  have q2 : IMn s1 := by rw [es1]; exact IMn_268 p0 (by omega)
  have q3 : IMk s1 := by rw [es1]; exact IMk_268 p1 (by omega)
  have q4 : IMo s1 := by rw [es1]; exact IMo_o (by unfold suIMo; first | decide | omega) p2
  have q5 : s1 268 8 = s0 268 8 := (show s1 268 8 = s0 268 8 from by rw [es1, xU_j _ _ (by decide)]).trans k268_8
  have q6 : s1 268 58 = s0 268 58 := (show s1 268 58 = s0 268 58 from by rw [es1, xU_j _ _ (by decide)]).trans k268_58
  have q7 : s1 268 17 = s0 268 17 := (show s1 268 17 = s0 268 17 from by rw [es1, xU_j _ _ (by decide)]).trans k268_17
  have q8 : s1 268 48 = s0 268 48 := (show s1 268 48 = s0 268 48 from by rw [es1, xU_j _ _ (by decide)]).trans k268_48
  have hF9 := hF.put es1 (by omega)
  have E2 := es1
  refine x_aload_n hx hb hl 0 rfl dX11_begins_5 rfl ?_
  refine x_iconst hx hb dX11_begins_6 ?_
  refine x_put (j := 42) hx hb hown hT hE hW cls_X11 (by decide) (fun σ => so_268 h0 g σ) (by decide) (st_X11_42 h0 s1 268 0) (ln_X11_42 h0 _ _) wq1227 rfl rfl rfl (by decide) dX11_begins_7 (fun H locs s10 es10 hW => ?_)
  have q11 : IMn s10 := by rw [es10]; exact IMn_268 q2 (by omega)
  have q12 : IMk s10 := by rw [es10]; exact IMk_268 q3 (by omega)
  have q13 : IMo s10 := by rw [es10]; exact IMo_o (by unfold suIMo; first | decide | omega) q4
  have q14 : s10 268 8 = s0 268 8 := (show s10 268 8 = s1 268 8 from by rw [es10, xU_j _ _ (by decide)]).trans q5
  have q15 : s10 268 58 = s0 268 58 := (show s10 268 58 = s1 268 58 from by rw [es10, xU_j _ _ (by decide)]).trans q6
  have q16 : s10 268 17 = s0 268 17 := (show s10 268 17 = s1 268 17 from by rw [es10, xU_j _ _ (by decide)]).trans q7
  have q17 : s10 268 48 = s0 268 48 := (show s10 268 48 = s1 268 48 from by rw [es10, xU_j _ _ (by decide)]).trans q8
  have hF18 := hF9.put es10 (by omega)
  have E7 := es10
  refine x_aload_n hx hb hl 0 rfl dX11_begins_10 rfl ?_
  refine x_iconst hx hb dX11_begins_11 ?_
  refine x_put (j := 43) hx hb hown hT hE hW cls_X11 (by decide) (fun σ => so_268 h0 g σ) (by decide) (st_X11_43 h0 s10 268 0) (ln_X11_43 h0 _ _) wq1228 rfl rfl rfl (by decide) dX11_begins_12 (fun H locs s19 es19 hW => ?_)
  have q20 : IMn s19 := by rw [es19]; exact IMn_268 q11 (by omega)
  have q21 : IMk s19 := by rw [es19]; exact IMk_268 q12 (by omega)
  have q22 : IMo s19 := by rw [es19]; exact IMo_o (by unfold suIMo; first | decide | omega) q13
  have q23 : s19 268 8 = s0 268 8 := (show s19 268 8 = s10 268 8 from by rw [es19, xU_j _ _ (by decide)]).trans q14
  have q24 : s19 268 58 = s0 268 58 := (show s19 268 58 = s10 268 58 from by rw [es19, xU_j _ _ (by decide)]).trans q15
  have q25 : s19 268 17 = s0 268 17 := (show s19 268 17 = s10 268 17 from by rw [es19, xU_j _ _ (by decide)]).trans q16
  have q26 : s19 268 48 = s0 268 48 := (show s19 268 48 = s10 268 48 from by rw [es19, xU_j _ _ (by decide)]).trans q17
  have hF27 := hF18.put es19 (by omega)
  have E12 := es19
  refine x_aload_n hx hb hl 0 rfl dX11_begins_15 rfl ?_
  refine x_iconst hx hb dX11_begins_16 ?_
  refine x_put (j := 44) hx hb hown hT hE hW cls_X11 (by decide) (fun σ => so_268 h0 g σ) (by decide) (st_X11_44 h0 s19 268 0) (ln_X11_44 h0 _ _) wq1229 rfl rfl rfl (by decide) dX11_begins_17 (fun H locs s28 es28 hW => ?_)
  have q29 : IMn s28 := by rw [es28]; exact IMn_268 q20 (by omega)
  have q30 : IMk s28 := by rw [es28]; exact IMk_268 q21 (by omega)
  have q31 : IMo s28 := by rw [es28]; exact IMo_o (by unfold suIMo; first | decide | omega) q22
  have q32 : s28 268 8 = s0 268 8 := (show s28 268 8 = s19 268 8 from by rw [es28, xU_j _ _ (by decide)]).trans q23
  have q33 : s28 268 58 = s0 268 58 := (show s28 268 58 = s19 268 58 from by rw [es28, xU_j _ _ (by decide)]).trans q24
  have q34 : s28 268 17 = s0 268 17 := (show s28 268 17 = s19 268 17 from by rw [es28, xU_j _ _ (by decide)]).trans q25
  have q35 : s28 268 48 = s0 268 48 := (show s28 268 48 = s19 268 48 from by rw [es28, xU_j _ _ (by decide)]).trans q26
  have hF36 := hF27.put es28 (by omega)
  have E17 := es28
  rw [eQ]
  exact x_vret hx hb hr hlk hW ⟨hF36, ⟨q29, q30, q31, q32, q33, q34, q35, trivial⟩, ⟨by rw [E17, xU_j _ _ (by decide), E12, xU_j _ _ (by decide), E7, xU_j _ _ (by decide), E2, xU_s], by rw [E17, xU_j _ _ (by decide), E12, xU_j _ _ (by decide), E7, xU_s], by rw [E17, xU_j _ _ (by decide), E12, xU_s], by rw [E17, xU_s], by rw [E17, xU_j _ _ (by decide), E12, xU_j _ _ (by decide), E7, xU_j _ _ (by decide), E2, xU_j _ _ (by decide)]⟩⟩ dX11_begins_20
set_option maxHeartbeats 4000000 in
set_option maxRecDepth 100000 in
theorem c_X11_minutesGoF (l : Launch) (D : va_G) (g : xG) (T : Nat × Nat × Nat) (h0 : Nat) (s0 : xS) (hσ : xRR s0) (n : Int) (rn : xR n) (K9 : Int → Int) (n9 : Int → Int) (w9 : Int → Int → Int) (q9 : zLaw) (l9 : Int → Int) (hok : zLok q9) (hlr : zLR s0 q9) (hK : ∀ t : Int, 0 ≤ t → t < 100 → s0 272 t = K9 t ∧ 0 ≤ K9 t ∧ K9 t ≤ 3) (hlm : ∀ i : Int, 0 ≤ i → i < 4 → s0 273 i = l9 i) (hw : ∀ j : Int, 0 ≤ j → j < 2 → s0 274 j = n9 j ∧ ∀ i : Int, 0 ≤ i → i < n9 j → s0 275 (60 * j + i) = w9 j i) (hY : zYq (zYr s0)) (hB : 0 ≤ s0 269 36 ∧ s0 269 36 < 1024) (hJt : zJt K9 (zY4 (zYr s0))) (hn : 0 ≤ n) (p0 : IMn s0) (p1 : IMk s0) (p2 : IMo s0) : Met l yX11_minutesGo (xws yX11_minutesGo cX11_minutesGo 3 none) { frames := 8, cells := 0, slots := 0, locals := 187 } (xP [.ref (h0 + 268), .int (xJ n)] D g T h0 s0) (xQv D g h0 (fun τ => xFr (fun k => k = 268 ∨ k = 269 ∨ k = 293 ∨ k = 294 ∨ k = 295 ∨ k = 296 ∨ k = 297 ∨ k = 298 ∨ k = 299) s0 τ ∧ (((IMn τ) ∧ (IMk τ) ∧ (IMo τ) ∧ (τ 268 8 = s0 268 8) ∧ (τ 268 58 = s0 268 58) ∧ (τ 268 17 = s0 268 17) ∧ (τ 269 34 = s0 269 34) ∧ (τ 268 48 = s0 268 48) ∧ True) ∧ (zYr τ = zmn K9 q9 l9 n9 w9 (s0 268 48) n.toNat (zYN (s0 269) 0 0 0) ∧ τ 268 41 = zSm (zYr s0) - zSm (zYr τ) ∧ zYq (zYr τ) ∧ (0 ≤ τ 269 36 ∧ τ 269 36 < 1024) ∧ τ 269 35 = s0 269 35 ∧ τ 268 48 = s0 268 48)))) 0 0 (xA h0) := by
  refine x_met hσ (by decide) (Nat.le_of_ble_eq_true rfl) ?_
  intro p e s m args below meth c hx hb hr hml hown hT hlk hnm hE hW ls hl
  have hl : lv_has ls 3 [(0, .ref (h0 + 268)), (1, .int (xJ n))] := hl
  obtain ⟨Q, eQ⟩ : ∃ Q, Q = MQ below (xQv D g h0 (fun τ => xFr (fun k => k = 268 ∨ k = 269 ∨ k = 293 ∨ k = 294 ∨ k = 295 ∨ k = 296 ∨ k = 297 ∨ k = 298 ∨ k = 299) s0 τ ∧ (((IMn τ) ∧ (IMk τ) ∧ (IMo τ) ∧ (τ 268 8 = s0 268 8) ∧ (τ 268 58 = s0 268 58) ∧ (τ 268 17 = s0 268 17) ∧ (τ 269 34 = s0 269 34) ∧ (τ 268 48 = s0 268 48) ∧ True) ∧ (zYr τ = zmn K9 q9 l9 n9 w9 (s0 268 48) n.toNat (zYN (s0 269) 0 0 0) ∧ τ 268 41 = zSm (zYr s0) - zSm (zYr τ) ∧ zYq (zYr τ) ∧ (0 ≤ τ 269 36 ∧ τ 269 36 < 1024) ∧ τ 269 35 = s0 269 35 ∧ τ 268 48 = s0 268 48)))) args s 0 0 (xA h0) := ⟨_, rfl⟩
  rw [← eQ]
  generalize hHe : ([] : List Loc) = locs at hW ⊢
  obtain ⟨H, eH⟩ : ∃ H, H = s.heap := ⟨_, rfl⟩
  rw [← eH] at hW ⊢
  have hF : xFr (fun k => k = 268 ∨ k = 269 ∨ k = 293 ∨ k = 294 ∨ k = 295 ∨ k = 296 ∨ k = 297 ∨ k = 298 ∨ k = 299) s0 s0 := xFr.rf
  have k268_8 : s0 268 8 = s0 268 8 := rfl
  have k268_58 : s0 268 58 = s0 268 58 := rfl
  have k268_17 : s0 268 17 = s0 268 17 := rfl
  have k269_34 : s0 269 34 = s0 269 34 := rfl
  have k268_48 : s0 268 48 = s0 268 48 := rfl
  have k269_37 : s0 269 37 = s0 269 37 := rfl
  refine x_aload_n hx hb hl 0 rfl dX11_minutesGo_0 rfl ?_
  refine x_gov (x_runV (As := []) hx hb hml hown hT hE hW hl.1 (Or.inl (by decide)) (so_268 h0 g _) rfl cf_X11_begins wq1543 wq131 wq1541 (c_X11_beginsF l D g T h0 s0 hW.2.1 p0 p1 p2) ⟨rfl, rfl, ⟨by decide, by decide⟩, ⟨by decide, by decide⟩⟩ rfl rfl (Nat.le_of_ble_eq_true rfl) dX11_minutesGo_1) hW (fun s2 H locs hp3 hW => ?_)
  obtain ⟨fs2, hp3⟩ := hp3
  have hF4 := hF.call fs2 (fun k h => by omega)
  have q5 : s2 269 34 = s0 269 34 := (congrFun (fs2 _ (by omega)) _).trans k269_34
  have q6 : s2 269 37 = s0 269 37 := (congrFun (fs2 _ (by omega)) _).trans k269_37
  have ghp3 := hp3.2
  have H1 := ghp3
  have e1 : zSm (zYr s2) = zSm (zYr s0) := zSm_o (fun g g1 g2 => by show zYN (s2 269) _ _ _ (14 + g) = zYN (s0 269) _ _ _ (14 + g); rw [fs2 269 (by first | decide | omega), zYN_O ⟨g1, g2⟩, zYN_O ⟨g1, g2⟩])
  have q1 : zYq (zYr s2) := zYN_q (by rw [fs2 269 (by first | decide | omega)]; exact hY)
  have g1 : zJt K9 (zY4 (zYr s2)) := by
    have e : zY4 (zYr s2) = zY4 (zYr s0) := by show zrt (s2 269) = zrt (s0 269); rw [fs2 269 (by first | decide | omega)]
    rw [e]; exact hJt
  refine x_iconst hx hb dX11_minutesGo_4 ?_
  refine lv_istore_n (lv' := [(2, .int (xJ 0)), (0, .ref (h0 + 268)), (1, .int (xJ n))]) hx hb dX11_minutesGo_5 rfl hl (by decide) rfl (fun ls hl => ?_)
  have L6 : ∀ (fu : Nat) (i2_6 : Int) (s_6 : xS) (H : Heap) (locs : List Loc) (ls : Array Slot), (xR i2_6) → (xFr (fun k => k = 268 ∨ k = 269 ∨ k = 293 ∨ k = 294 ∨ k = 295 ∨ k = 296 ∨ k = 297 ∨ k = 298 ∨ k = 299) s0 s_6) → (s_6 269 34 = s0 269 34) → (IMn s_6) → (IMk s_6) → (IMo s_6) → (s_6 268 8 = s0 268 8) → (s_6 268 58 = s0 268 58) → (s_6 268 17 = s0 268 17) → (s_6 268 48 = s0 268 48) → (0 ≤ i2_6) → (s_6 269 37 = s0 269 37 + i2_6) → (zYr s_6 = zmn K9 q9 l9 n9 w9 (s0 268 48) (i2_6).toNat (zYN (s0 269) 0 0 0)) → (zYq (zYr s_6)) → (s_6 268 41 = zSm (zYr s0) - zSm (zYr s_6)) → ((0 ≤ s_6 269 36 ∧ s_6 269 36 < 1024) ∧ s_6 269 35 = s0 269 35 ∧ s_6 268 48 = s0 268 48) → (zJt K9 (zY4 (zYr s_6))) → (i2_6 ≤ n) → (zSm (zYr s_6) ≤ zSm (zYr s0)) → (n + 1 - i2_6).toNat < fu → xW D g h0 s H locs s_6 → lv_has ls 3 [(0, .ref (h0 + 268)), (1, .int (xJ n)), (2, .int (xJ i2_6))] → W p l e { frames := 8, cells := 0, slots := 0, locals := 187 } s m args below meth c H locs 0 0 Q (F0 m 6 ls []) := by
    intro fu
    induction fu with
    | zero => intro i2_6 s_6 H locs ls ri2_6 hF_6 q6_0 q6_2 q6_3 q6_4 q6_5 q6_6 q6_7 q6_8 v6_0 v6_1 v6_2 v6_3 v6_4 v6_5 v6_6 v6_7 v6_8 hm; exact absurd hm (Nat.not_lt_zero _)
    | succ fu ih6 =>
      intro i2_6 s_6 H locs ls ri2_6 hF_6 q6_0 q6_2 q6_3 q6_4 q6_5 q6_6 q6_7 q6_8 v6_0 v6_1 v6_2 v6_3 v6_4 v6_5 v6_6 v6_7 v6_8 hm hW hl
      have hm_6 := fun (_ : Unit) => hm
      clear hm
      refine x_iload_n hx hb hl 2 rfl dX11_minutesGo_6 rfl ?_
      refine x_iload_n hx hb hl 1 rfl dX11_minutesGo_7 rfl ?_
      refine x_icmp_ge (tgt := 44) hx hb ri2_6 rn dX11_minutesGo_8 (by decide) (fun c7 => ?_) (fun c7 => ?_)
      · skip
        rw [eQ]
        exact x_vret hx hb hr hlk hW ⟨hF_6, ⟨q6_2, q6_3, q6_4, q6_5, q6_6, q6_7, q6_0, q6_8, trivial⟩, ⟨by
            first
              | (rw [v6_2, show (i2_6).toNat = n.toNat from by omega])
              | (rw [show n.toNat = (i2_6).toNat + (n - i2_6).toNat from by omega, zmn_stop (by rw [← v6_2]; show 9999 ≤ s_6 269 37; omega)]; exact v6_2), v6_4, v6_3, v6_5.1, v6_5.2.1, v6_5.2.2⟩⟩ dX11_minutesGo_44
      refine x_aload_n hx hb hl 0 rfl dX11_minutesGo_11 rfl ?_
      refine x_get (j := 0) (v := .ref (h0 + 269)) hx hb hown hT hE hW cls_X11 (Or.inl (by decide)) (so_268 h0 g _) (by decide) rfl wq1185 dX11_minutesGo_12 ?_
      refine x_bipush hx hb dX11_minutesGo_15 (by decide) ?_
      refine x_iald hx hb hE hW (Or.inl (by decide)) (sa_269 h0 g _) ⟨by decide, by decide⟩ (by decide) dX11_minutesGo_17 ?_
      refine x_rd hW (fun x8 ex8 rx8 => ?_)
      have bx8 : 0 ≤ x8 ∧ x8 ≤ 9999 := by rw [ex8]; exact (IMn.n1 q6_2).2.2.2.1
      have q10 : s_6 269 37 = x8 := ex8.symm
      refine x_sipush hx hb dX11_minutesGo_18 (by decide) ?_
      refine x_icmp_ge (tgt := 44) hx hb rx8 (by decide) dX11_minutesGo_21 (by decide) (fun c11 => ?_) (fun c11 => ?_)
      · skip
        rw [eQ]
        exact x_vret hx hb hr hlk hW ⟨hF_6, ⟨q6_2, q6_3, q6_4, q6_5, q6_6, q6_7, q6_0, q6_8, trivial⟩, ⟨by
            first
              | (rw [v6_2, show (i2_6).toNat = n.toNat from by omega])
              | (rw [show n.toNat = (i2_6).toNat + (n - i2_6).toNat from by omega, zmn_stop (by rw [← v6_2]; show 9999 ≤ s_6 269 37; omega)]; exact v6_2), v6_4, v6_3, v6_5.1, v6_5.2.1, v6_5.2.2⟩⟩ dX11_minutesGo_44
      refine x_aload_n hx hb hl 0 rfl dX11_minutesGo_24 rfl ?_
      refine x_iconst hx hb dX11_minutesGo_25 ?_
      refine x_gov (x_runV (As := [.int (xJ 0)]) hx hb hml hown hT hE hW hl.1 (Or.inl (by decide)) (so_268 h0 g _) rfl cf_X11_walksOn wq1547 wq132 wq1545 (c_X11_walksOnJ l D g T h0 s_6 hW.2.1 0 (by decide) K9 n9 w9 (by omega) (by first | exact hK | exact fun t t1 t2 => by rw [hF_6 272 (by first | decide | omega)]; exact hK t t1 t2) (by first | exact hw | exact (by rw [hF_6 274 (by first | decide | omega), hF_6 275 (by first | decide | omega)]; exact hw)) q6_2 q6_3 q6_4) ⟨rfl, rfl, ⟨by decide, by decide⟩, ⟨by decide, by decide⟩⟩ rfl rfl (Nat.le_of_ble_eq_true rfl) dX11_minutesGo_26) hW (fun s13 H locs hp14 hW => ?_)
      obtain ⟨fs13, hp14⟩ := hp14
      have hF15 := hF_6.call fs13 (fun k h => by omega)
      have q16 : s13 268 8 = s0 268 8 := (congrFun (fs13 _ (by omega)) _).trans q6_5
      have q17 : s13 268 58 = s0 268 58 := (congrFun (fs13 _ (by omega)) _).trans q6_6
      have q18 : s13 268 17 = s0 268 17 := (congrFun (fs13 _ (by omega)) _).trans q6_7
      have q19 : s13 268 48 = s0 268 48 := (congrFun (fs13 _ (by omega)) _).trans q6_8
      have ghp14 := hp14.2
      have H26 := ghp14
      have G26 : s13 268 = s_6 268 := fs13 268 (by first | decide | omega)
      refine x_aload_n hx hb hl 0 rfl dX11_minutesGo_29 rfl ?_
      refine x_iconst hx hb dX11_minutesGo_30 ?_
      refine x_gov (x_runV (As := [.int (xJ 1)]) hx hb hml hown hT hE hW hl.1 (Or.inl (by decide)) (so_268 h0 g _) rfl cf_X11_walksOn wq1547 wq132 wq1545 (c_X11_walksOnJ l D g T h0 s13 hW.2.1 1 (by decide) K9 n9 w9 (by omega) (by first | exact hK | exact fun t t1 t2 => by rw [hF15 272 (by first | decide | omega)]; exact hK t t1 t2) (by first | exact hw | exact (by rw [hF15 274 (by first | decide | omega), hF15 275 (by first | decide | omega)]; exact hw)) hp14.1.1 hp14.1.2.1 hp14.1.2.2.1) ⟨rfl, rfl, ⟨by decide, by decide⟩, ⟨by decide, by decide⟩⟩ rfl rfl (Nat.le_of_ble_eq_true rfl) dX11_minutesGo_31) hW (fun s21 H locs hp22 hW => ?_)
      obtain ⟨fs21, hp22⟩ := hp22
      have hF23 := hF15.call fs21 (fun k h => by omega)
      have q24 : s21 268 8 = s0 268 8 := (congrFun (fs21 _ (by omega)) _).trans q16
      have q25 : s21 268 58 = s0 268 58 := (congrFun (fs21 _ (by omega)) _).trans q17
      have q26 : s21 268 17 = s0 268 17 := (congrFun (fs21 _ (by omega)) _).trans q18
      have q27 : s21 268 48 = s0 268 48 := (congrFun (fs21 _ (by omega)) _).trans q19
      have ghp22 := hp22.2
      have H31 := ghp22
      have G31 : s21 268 = s_6 268 := (fs21 268 (by first | decide | omega)).trans G26
      have Y31 : zYr s21 = zm1 K9 n9 w9 (zYr s_6) := by
        show zYN (s21 269) (s21 268 42) (s21 268 43) (s21 268 44) = _
        rw [G31]
        exact zYN_js (N := s_6 269) (H31.1.trans (congrArg (zjk K9 n9 w9 1) H26.1)) (fun i hi => (H31.2 i hi).trans (H26.2 i hi))
      have N31 : s21 268 41 = s_6 268 41 ∧ s21 269 36 = s_6 269 36 ∧ s21 269 35 = s_6 269 35 ∧ s21 268 48 = s_6 268 48 := by rw [G31]; exact ⟨rfl, (H31.2 36 (by decide)).trans (H26.2 36 (by decide)), (H31.2 35 (by decide)).trans (H26.2 35 (by decide)), rfl⟩
      have g31 : zJt K9 (zrt (s21 269)) := by
        have e : zrt (s21 269) = zjs K9 n9 w9 (zrt (s_6 269)) := H31.1.trans (congrArg (zjk K9 n9 w9 1) H26.1)
        rw [e]; exact zjs_g v6_6
      refine x_aload_n hx hb hl 0 rfl dX11_minutesGo_34 rfl ?_
      refine x_gov (x_runV (As := []) hx hb hml hown hT hE hW hl.1 (Or.inl (by decide)) (so_268 h0 g _) rfl cf_X11_shadesGo wq1564 wq134 wq1562 (c_X11_shadesGoF l D g T h0 s21 hW.2.1 q9 K9 l9 (hok) (by first | exact hlr | exact hlr.f (fun k hk => hF23 k (by omega)) (by omega)) (by first | exact hK | exact fun t t1 t2 => by rw [hF23 272 (by first | decide | omega)]; exact hK t t1 t2) (by first | exact hlm | exact fun i i1 i2 => by rw [hF23 273 (by first | decide | omega)]; exact hlm i i1 i2) (zJg_G g31 (fun j j1 j2 => ((IMn.n1 hp22.1.1).1 j j1 j2).1)) (zJg_N g31) (by rw [Y31]; exact zm1_q v6_3) (by rw [N31.2.1]; exact v6_5.1) (by omega) (by rw [N31.1]; have a := v6_4; have b := zSm_r hY; have c := zSm_r v6_3; have e := v6_8; omega) hp22.1.1 hp22.1.2.1 hp22.1.2.2.1) ⟨rfl, rfl, ⟨by decide, by decide⟩, ⟨by decide, by decide⟩⟩ rfl rfl (Nat.le_of_ble_eq_true rfl) dX11_minutesGo_35) hW (fun s29 H locs hp30 hW => ?_)
      obtain ⟨fs29, hp30⟩ := hp30
      have hF31 := hF23.call fs29 (fun k h => by omega)
      have ghp30 := hp30.2
      have H35 := ghp30
      refine x_iinc (lv' := [(2, .int (xJ (i2_6 + 1))), (0, .ref (h0 + 268)), (1, .int (xJ n))]) hx hb hl 2 rfl dX11_minutesGo_38 (by decide) rfl (fun ls hl => ?_)
      refine lv_goto (tgt := 6) hx hb dX11_minutesGo_41 (by decide) ?_
      exact ih6 (i2_6 + 1) s29 H locs ls (by omega) hF31 (hp30.1.2.2.2.2.2.2.2.2.2.1.trans (hp22.1.2.2.2.2.1.trans (hp14.1.2.2.2.2.1.trans q6_0))) hp30.1.1 hp30.1.2.1 hp30.1.2.2.1 (hp30.1.2.2.2.1.trans q24) (hp30.1.2.2.2.2.1.trans q25) (hp30.1.2.2.2.2.2.2.2.2.2.2.1.trans q26) (hp30.1.2.2.2.2.2.2.2.2.2.2.2.1.trans q27) (by omega) (by omega) (by rw [show (i2_6 + 1).toNat = i2_6.toNat + 1 from by omega, zmn_s (by rw [← v6_2]; show s_6 269 37 < 9999; omega), ← v6_2, zmi_B, ← Y31, ← N31.2.2.2.trans v6_5.2.2]; exact H35.1) (H35.2.2.2.2.2.1) (by have a := H35.2.1; have b := v6_4; rw [Y31, zSm_m1, N31.1] at a; omega) (⟨H35.2.2.1, H35.2.2.2.1.trans (N31.2.2.1.trans v6_5.2.1), H35.2.2.2.2.1.trans (N31.2.2.2.trans v6_5.2.2)⟩) (by rw [H35.1, Y31, ← zmi_B, zmi_4]; exact zjs_g v6_6) (by omega) (by have a := H35.2.2.2.2.2.2.2; rw [Y31, zSm_m1] at a; have b := v6_8; omega) (by have hm := hm_6 (); omega) hW (lv_sub hl [1, 2, 0] rfl)
  exact L6 ((n + 1 - 0 : Int).toNat + 1) 0 s2 H locs ls (by decide) hF4 q5 hp3.1.1 hp3.1.2.1 hp3.1.2.2.1 (hp3.1.2.2.2.1.trans k268_8) (hp3.1.2.2.2.2.1.trans k268_58) (hp3.1.2.2.2.2.2.1.trans k268_17) (hp3.1.2.2.2.2.2.2.1.trans k268_48) (by omega) (by omega) (by show zYN _ _ _ _ = _; rw [fs2 269 (by first | decide | omega), H1.2.1, H1.2.2.1, H1.2.2.2.1]; rfl) (q1) (by rw [H1.1, e1]; omega) (⟨by rw [fs2 269 (by first | decide | omega)]; exact hB, by rw [fs2 269 (by first | decide | omega)], H1.2.2.2.2⟩) (g1) (by omega) (by rw [e1]; exact Int.le_refl _) (Nat.lt_succ_self _) hW (lv_sub hl [1, 2, 0] rfl)


