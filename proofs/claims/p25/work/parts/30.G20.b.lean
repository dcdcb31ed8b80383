set_option maxHeartbeats 4000000 in
set_option maxRecDepth 100000 in
theorem c_X11_endsPiece (l : Launch) (D : va_G) (g : xG) (T : Nat × Nat × Nat) (h0 : Nat) (s0 : xS) (hσ : xRR s0) (c0 : Int → Int) (a : Int) (M : Int) (q : Int) (D1 : Int) (hlc : zLC c0 a M q D1 s0) (hD : 1 ≤ D1) (hwo : zWO s0) (p0 : IMn s0) (p1 : IMk s0) (p2 : IMo s0) (p3 : IR s0) : Met l yX11_endsPiece (xws yX11_endsPiece cX11_endsPiece 1 none) { frames := 1, cells := 0, slots := 0, locals := 22 } (xP [.ref (h0 + 268)] D g T h0 s0) (xQv D g h0 (fun τ => xFr (fun k => k = 268 ∨ k = 277) s0 τ ∧ (((IMn τ) ∧ (IMk τ) ∧ (IMo τ) ∧ (IR τ) ∧ (τ 268 8 = s0 268 8) ∧ (τ 268 58 = s0 268 58) ∧ (τ 268 9 = s0 268 9) ∧ (τ 268 10 = s0 268 10) ∧ (τ 268 16 = s0 268 16) ∧ (τ 268 34 = s0 268 34) ∧ (τ 268 35 = s0 268 35) ∧ (τ 268 36 = s0 268 36) ∧ (τ 268 37 = s0 268 37) ∧ True) ∧ (zLC c0 a M q D1 τ ∧ zWO τ)))) 0 0 (xA h0) := by
  refine x_met hσ (by decide) (Nat.le_of_ble_eq_true rfl) ?_
  intro p e s m args below meth c hx hb hr hml hown hT hlk hnm hE hW ls hl
  have hl : lv_has ls 1 [(0, .ref (h0 + 268))] := hl
  obtain ⟨Q, eQ⟩ : ∃ Q, Q = MQ below (xQv D g h0 (fun τ => xFr (fun k => k = 268 ∨ k = 277) s0 τ ∧ (((IMn τ) ∧ (IMk τ) ∧ (IMo τ) ∧ (IR τ) ∧ (τ 268 8 = s0 268 8) ∧ (τ 268 58 = s0 268 58) ∧ (τ 268 9 = s0 268 9) ∧ (τ 268 10 = s0 268 10) ∧ (τ 268 16 = s0 268 16) ∧ (τ 268 34 = s0 268 34) ∧ (τ 268 35 = s0 268 35) ∧ (τ 268 36 = s0 268 36) ∧ (τ 268 37 = s0 268 37) ∧ True) ∧ (zLC c0 a M q D1 τ ∧ zWO τ)))) args s 0 0 (xA h0) := ⟨_, rfl⟩
  rw [← eQ]
  generalize hHe : ([] : List Loc) = locs at hW ⊢
  obtain ⟨H, eH⟩ : ∃ H, H = s.heap := ⟨_, rfl⟩
  rw [← eH] at hW ⊢
  have hF : xFr (fun k => k = 268 ∨ k = 277) s0 s0 := xFr.rf
  have k268_8 : s0 268 8 = s0 268 8 := rfl
  have k268_58 : s0 268 58 = s0 268 58 := rfl
  have k268_9 : s0 268 9 = s0 268 9 := rfl
  have k268_10 : s0 268 10 = s0 268 10 := rfl
  have k268_16 : s0 268 16 = s0 268 16 := rfl
  have k268_34 : s0 268 34 = s0 268 34 := rfl
  have k268_35 : s0 268 35 = s0 268 35 := rfl
  have k268_36 : s0 268 36 = s0 268 36 := rfl
  have k268_37 : s0 268 37 = s0 268 37 := rfl
  have k268_14 : s0 268 14 = s0 268 14 := rfl
  have k268_15 : s0 268 15 = s0 268 15 := rfl
  have L0 : ∀ (fu : Nat) (s_0 : xS) (H : Heap) (locs : List Loc) (ls : Array Slot), (xFr (fun k => k = 268 ∨ k = 277) s0 s_0) → (IMn s_0) → (IMk s_0) → (IMo s_0) → (IR s_0) → (s_0 268 8 = s0 268 8) → (s_0 268 58 = s0 268 58) → (s_0 268 9 = s0 268 9) → (s_0 268 10 = s0 268 10) → (s_0 268 16 = s0 268 16) → (s_0 268 34 = s0 268 34) → (s_0 268 35 = s0 268 35) → (s_0 268 36 = s0 268 36) → (s_0 268 37 = s0 268 37) → (zLC c0 a M q D1 s_0) → (zWO s_0) → (s_0 268 15).toNat < fu → xW D g h0 s H locs s_0 → lv_has ls 1 [(0, .ref (h0 + 268))] → W p l e { frames := 1, cells := 0, slots := 0, locals := 22 } s m args below meth c H locs 0 0 Q (F0 m 0 ls []) := by
    intro fu
    induction fu with
    | zero => intro s_0 H locs ls hF_0 q0_0 q0_1 q0_2 q0_3 q0_4 q0_5 q0_6 q0_7 q0_8 q0_9 q0_10 q0_11 q0_12 v0_0 v0_1 hm; exact absurd hm (Nat.not_lt_zero _)
    | succ fu ih0 =>
      intro s_0 H locs ls hF_0 q0_0 q0_1 q0_2 q0_3 q0_4 q0_5 q0_6 q0_7 q0_8 q0_9 q0_10 q0_11 q0_12 v0_0 v0_1 hm hW hl
      have wt := v0_0.2.wt
      have cw := v0_0.2.cw
      have w1 := v0_1.1
      refine x_aload_n hx hb hl 0 rfl dX11_endsPiece_0 rfl ?_
      refine x_goi (x_runV (As := []) hx hb hml hown hT hE hW hl.1 (Or.inl (by decide)) (so_268 h0 g _) rfl cf_X11_waitTop wq1507 wq123 wq1505 (c_X11_waitTop l D g T h0 s_0 hW.2.1 (wt) q0_0 q0_1 q0_2 q0_3) ⟨rfl, rfl, ⟨by decide, by decide⟩, ⟨by decide, by decide⟩⟩ rfl rfl (Nat.le_of_ble_eq_true rfl) dX11_endsPiece_1) hW (fun x1 s2 H locs rx1 hp3 hW => ?_)
      obtain ⟨es2, hp3⟩ := hp3
      subst es2
      have ghp3 := hp3
      have q4 : s_0 268 15 = s_0 268 15 := rfl
      refine x_bipush hx hb dX11_endsPiece_4 (by decide) ?_
      refine x_icmp_ne (tgt := 39) hx hb rx1 (by decide) dX11_endsPiece_6 (by decide) (fun c5 => ?_) (fun c5 => ?_)
      · skip
        rw [eQ]
        exact x_vret hx hb hr hlk hW ⟨hF_0, ⟨q0_0, q0_1, q0_2, q0_3, q0_4, q0_5, q0_6, q0_7, q0_8, q0_9, q0_10, q0_11, q0_12, trivial⟩, ⟨v0_0, v0_1⟩⟩ dX11_endsPiece_39
      refine x_aload_n hx hb hl 0 rfl dX11_endsPiece_9 rfl ?_
      refine x_bipush hx hb dX11_endsPiece_10 (by decide) ?_
      refine x_iconst hx hb dX11_endsPiece_12 ?_
      refine x_gov (x_runV (As := [.int (xJ 10), .int (xJ 0)]) hx hb hml hown hT hE hW hl.1 (Or.inl (by decide)) (so_268 h0 g _) rfl cf_X11_notes wq1493 wq121 wq1491 (c_X11_notes l D g T h0 s_0 hW.2.1 10 (by decide) 0 (by decide) (by omega) (by omega) (by omega) q0_0 q0_1 q0_2 q0_3) ⟨rfl, rfl, ⟨by decide, by decide⟩, ⟨by decide, by decide⟩⟩ rfl rfl (Nat.le_of_ble_eq_true rfl) dX11_endsPiece_13) hW (fun s7 H locs hp8 hW => ?_)
      obtain ⟨fs7, hp8⟩ := hp8
      have hF9 := hF_0.call fs7 (fun k h => by omega)
      have ghp8 := hp8.2
      have q10 : s7 268 14 = s_0 268 14 + 1 := ghp8
      have B13 : s7 278 = s_0 278 := fs7 278 (by omega)
      refine x_aload_n hx hb hl 0 rfl dX11_endsPiece_16 rfl ?_
      refine x_aload_n hx hb hl 0 rfl dX11_endsPiece_17 rfl ?_
      refine x_get (j := 15) (v := .int (xJ (s7 268 15))) hx hb hown hT hE hW cls_X11 (Or.inl (by decide)) (so_268 h0 g _) (by decide) rfl wq1200 dX11_endsPiece_18 ?_
      refine x_rd hW (fun x11 ex11 rx11 => ?_)
      have fx11 : x11 = s_0 268 15 := ex11.trans (hp8.1.2.2.2.2.2.2.2.2.2.1.trans q4)
      refine x_iconst hx hb dX11_endsPiece_21 ?_
      refine x_isub hx hb dX11_endsPiece_22 ?_
      refine x_put (j := 15) hx hb hown hT hE hW cls_X11 (by decide) (fun σ => so_268 h0 g σ) (by decide) (st_X11_15 h0 s7 268 (x11 - 1)) (ln_X11_15 h0 _ _) wq1200 rfl rfl rfl (by omega) dX11_endsPiece_23 (fun H locs s12 es12 hW => ?_)
      have q13 : IMn s12 := by rw [es12]; exact IMn_268 hp8.1.1 (by omega)
      have q14 : IMk s12 := by rw [es12]; exact IMk_268 hp8.1.2.1 (by omega)
      have q15 : IMo s12 := by rw [es12]; exact IMo_o (by unfold suIMo; omega) hp8.1.2.2.1
      have q16 : IR s12 := by rw [es12]; exact IR_268 hp8.1.2.2.2.1 (by omega)
      have q17 : s12 277 = xud (s_0 277) (s_0 268 14) (1048576 * 10 + 0) := (show s12 277 = s7 277 from by rw [es12, xU_k _ _ _ (by omega)]).trans hp8.1.2.2.2.2.1
      have q18 : s12 268 8 = s0 268 8 := (show s12 268 8 = s7 268 8 from by rw [es12, xU_j _ _ (by decide)]).trans (hp8.1.2.2.2.2.2.1.trans q0_4)
      have q19 : s12 268 58 = s0 268 58 := (show s12 268 58 = s7 268 58 from by rw [es12, xU_j _ _ (by decide)]).trans (hp8.1.2.2.2.2.2.2.1.trans q0_5)
      have q20 : s12 268 9 = s0 268 9 := (show s12 268 9 = s7 268 9 from by rw [es12, xU_j _ _ (by decide)]).trans (hp8.1.2.2.2.2.2.2.2.1.trans q0_6)
      have q21 : s12 268 10 = s0 268 10 := (show s12 268 10 = s7 268 10 from by rw [es12, xU_j _ _ (by decide)]).trans (hp8.1.2.2.2.2.2.2.2.2.1.trans q0_7)
      have q22 : s12 268 15 = (x11 - 1) := by rw [es12, xU_s]
      have q23 : s12 268 16 = s0 268 16 := (show s12 268 16 = s7 268 16 from by rw [es12, xU_j _ _ (by decide)]).trans (hp8.1.2.2.2.2.2.2.2.2.2.2.1.trans q0_8)
      have q24 : s12 268 34 = s0 268 34 := (show s12 268 34 = s7 268 34 from by rw [es12, xU_j _ _ (by decide)]).trans (hp8.1.2.2.2.2.2.2.2.2.2.2.2.1.trans q0_9)
      have q25 : s12 268 35 = s0 268 35 := (show s12 268 35 = s7 268 35 from by rw [es12, xU_j _ _ (by decide)]).trans (hp8.1.2.2.2.2.2.2.2.2.2.2.2.2.1.trans q0_10)
      have q26 : s12 268 36 = s0 268 36 := (show s12 268 36 = s7 268 36 from by rw [es12, xU_j _ _ (by decide)]).trans (hp8.1.2.2.2.2.2.2.2.2.2.2.2.2.2.1.trans q0_11)
      have q27 : s12 268 37 = s0 268 37 := (show s12 268 37 = s7 268 37 from by rw [es12, xU_j _ _ (by decide)]).trans (hp8.1.2.2.2.2.2.2.2.2.2.2.2.2.2.2.1.trans q0_12)
      have q28 : s12 268 14 = s_0 268 14 + 1 := (show s12 268 14 = s7 268 14 from by rw [es12, xU_j _ _ (by decide)]).trans q10
      have hF29 := hF9.put es12 (by omega)
      have E23 := es12
      refine x_aload_n hx hb hl 0 rfl dX11_endsPiece_26 rfl ?_
      refine x_aload_n hx hb hl 0 rfl dX11_endsPiece_27 rfl ?_
      refine x_get (j := 13) (v := .int (xJ (s12 268 13))) hx hb hown hT hE hW cls_X11 (Or.inl (by decide)) (so_268 h0 g _) (by decide) rfl wq1198 dX11_endsPiece_28 ?_
      refine x_rd hW (fun x30 ex30 rx30 => ?_)
      refine x_iconst hx hb dX11_endsPiece_31 ?_
      refine x_isub hx hb dX11_endsPiece_32 ?_
      refine x_any (fun x31 rx31 => ?_)
      refine x_put (j := 13) hx hb hown hT hE hW cls_X11 (by decide) (fun σ => so_268 h0 g σ) (by decide) (st_X11_13 h0 s12 268 x31) (ln_X11_13 h0 _ _) wq1198 rfl rfl rfl rx31 dX11_endsPiece_33 (fun H locs s32 es32 hW => ?_)
      have q33 : IMn s32 := by rw [es32]; exact IMn_268 q13 (by omega)
      have q34 : IMk s32 := by rw [es32]; exact IMk_268 q14 (by omega)
      have q35 : IMo s32 := by rw [es32]; exact IMo_o (by unfold suIMo; omega) q15
      have q36 : IR s32 := by rw [es32]; exact IR_268 q16 (by omega)
      have q37 : s32 277 = xud (s_0 277) (s_0 268 14) (1048576 * 10 + 0) := (show s32 277 = s12 277 from by rw [es32, xU_k _ _ _ (by omega)]).trans q17
      have q38 : s32 268 8 = s0 268 8 := (show s32 268 8 = s12 268 8 from by rw [es32, xU_j _ _ (by decide)]).trans q18
      have q39 : s32 268 58 = s0 268 58 := (show s32 268 58 = s12 268 58 from by rw [es32, xU_j _ _ (by decide)]).trans q19
      have q40 : s32 268 9 = s0 268 9 := (show s32 268 9 = s12 268 9 from by rw [es32, xU_j _ _ (by decide)]).trans q20
      have q41 : s32 268 10 = s0 268 10 := (show s32 268 10 = s12 268 10 from by rw [es32, xU_j _ _ (by decide)]).trans q21
      have q42 : s32 268 15 = (x11 - 1) := (show s32 268 15 = s12 268 15 from by rw [es32, xU_j _ _ (by decide)]).trans q22
      have q43 : s32 268 16 = s0 268 16 := (show s32 268 16 = s12 268 16 from by rw [es32, xU_j _ _ (by decide)]).trans q23
      have q44 : s32 268 34 = s0 268 34 := (show s32 268 34 = s12 268 34 from by rw [es32, xU_j _ _ (by decide)]).trans q24
      have q45 : s32 268 35 = s0 268 35 := (show s32 268 35 = s12 268 35 from by rw [es32, xU_j _ _ (by decide)]).trans q25
      have q46 : s32 268 36 = s0 268 36 := (show s32 268 36 = s12 268 36 from by rw [es32, xU_j _ _ (by decide)]).trans q26
      have q47 : s32 268 37 = s0 268 37 := (show s32 268 37 = s12 268 37 from by rw [es32, xU_j _ _ (by decide)]).trans q27
      have q48 : s32 268 14 = s_0 268 14 + 1 := (show s32 268 14 = s12 268 14 from by rw [es32, xU_j _ _ (by decide)]).trans q28
      have hF49 := hF29.put es32 (by omega)
      have B33 : s32 278 = s_0 278 := by rw [es32, xU_k _ _ _ (by omega), E23, xU_k _ _ _ (by omega), B13]
      refine lv_goto (tgt := 0) hx hb dX11_endsPiece_36 (by decide) ?_
      exact ih0 s32 H locs ls hF49 q33 q34 q35 q36 q38 q39 q40 q41 q43 q44 q45 q46 q47 (v0_0.not hD (by omega) (by omega) (by omega) (by omega) (by omega) (by omega) q37 B33) (zWO_pop v0_1 (Or.inl (by omega)) (by omega) B33) (by omega) hW (lv_sub hl [0] rfl)
  exact L0 ((s0 268 15 : Int).toNat + 1) s0 H locs ls hF p0 p1 p2 p3 k268_8 k268_58 k268_9 k268_10 k268_16 k268_34 k268_35 k268_36 k268_37 (hlc) (hwo) (Nat.lt_succ_self _) hW (lv_sub hl [0] rfl)
set_option maxHeartbeats 4000000 in
set_option maxRecDepth 100000 in
theorem c_X11_lands (l : Launch) (D : va_G) (g : xG) (T : Nat × Nat × Nat) (h0 : Nat) (s0 : xS) (hσ : xRR s0) (x : Int) (rx : xR x) (c0 : Int → Int) (a : Int) (M : Int) (q : Int) (hlc : zLC c0 a M q 1 s0) (hwo : zWO s0) (hx0 : x = 0 ∨ x = 1) (p0 : IMn s0) (p1 : IMk s0) (p2 : IMo s0) (p3 : IR s0) : Met l yX11_lands (xws yX11_lands cX11_lands 3 none) { frames := 1, cells := 0, slots := 0, locals := 20 } (xP [.ref (h0 + 268), .int (xJ x)] D g T h0 s0) (xQv D g h0 (fun τ => xFr (fun k => k = 268 ∨ k = 277) s0 τ ∧ (((IMn τ) ∧ (IMk τ) ∧ (IMo τ) ∧ (IR τ) ∧ (τ 268 8 = s0 268 8) ∧ (τ 268 58 = s0 268 58) ∧ (τ 268 9 = s0 268 9) ∧ (τ 268 10 = s0 268 10) ∧ (τ 268 14 = s0 268 14) ∧ (τ 268 16 = s0 268 16) ∧ (τ 268 34 = s0 268 34) ∧ (τ 268 35 = s0 268 35) ∧ (τ 268 36 = s0 268 36) ∧ (τ 268 37 = s0 268 37) ∧ True) ∧ (zLC c0 a M q 1 τ ∧ zWO τ ∧ (x = 0 ∨ (ztW τ ≠ 11 ∧ ztW τ ≠ 12)))))) 0 0 (xA h0) := by
  refine x_met hσ (by decide) (Nat.le_of_ble_eq_true rfl) ?_
  intro p e s m args below meth c hx hb hr hml hown hT hlk hnm hE hW ls hl
  have hl : lv_has ls 3 [(0, .ref (h0 + 268)), (1, .int (xJ x))] := hl
  obtain ⟨Q, eQ⟩ : ∃ Q, Q = MQ below (xQv D g h0 (fun τ => xFr (fun k => k = 268 ∨ k = 277) s0 τ ∧ (((IMn τ) ∧ (IMk τ) ∧ (IMo τ) ∧ (IR τ) ∧ (τ 268 8 = s0 268 8) ∧ (τ 268 58 = s0 268 58) ∧ (τ 268 9 = s0 268 9) ∧ (τ 268 10 = s0 268 10) ∧ (τ 268 14 = s0 268 14) ∧ (τ 268 16 = s0 268 16) ∧ (τ 268 34 = s0 268 34) ∧ (τ 268 35 = s0 268 35) ∧ (τ 268 36 = s0 268 36) ∧ (τ 268 37 = s0 268 37) ∧ True) ∧ (zLC c0 a M q 1 τ ∧ zWO τ ∧ (x = 0 ∨ (ztW τ ≠ 11 ∧ ztW τ ≠ 12)))))) args s 0 0 (xA h0) := ⟨_, rfl⟩
  rw [← eQ]
  generalize hHe : ([] : List Loc) = locs at hW ⊢
  obtain ⟨H, eH⟩ : ∃ H, H = s.heap := ⟨_, rfl⟩
  rw [← eH] at hW ⊢
  have hF : xFr (fun k => k = 268 ∨ k = 277) s0 s0 := xFr.rf
  have k268_8 : s0 268 8 = s0 268 8 := rfl
  have k268_58 : s0 268 58 = s0 268 58 := rfl
  have k268_9 : s0 268 9 = s0 268 9 := rfl
  have k268_10 : s0 268 10 = s0 268 10 := rfl
  have k268_14 : s0 268 14 = s0 268 14 := rfl
  have k268_16 : s0 268 16 = s0 268 16 := rfl
  have k268_34 : s0 268 34 = s0 268 34 := rfl
  have k268_35 : s0 268 35 = s0 268 35 := rfl
  have k268_36 : s0 268 36 = s0 268 36 := rfl
  have k268_37 : s0 268 37 = s0 268 37 := rfl
  have k268_15 : s0 268 15 = s0 268 15 := rfl
  have L0 : ∀ (fu : Nat) (s_0 : xS) (H : Heap) (locs : List Loc) (ls : Array Slot), (xFr (fun k => k = 268 ∨ k = 277) s0 s_0) → (IMn s_0) → (IMk s_0) → (IMo s_0) → (IR s_0) → (s_0 268 8 = s0 268 8) → (s_0 268 58 = s0 268 58) → (s_0 268 9 = s0 268 9) → (s_0 268 10 = s0 268 10) → (s_0 268 14 = s0 268 14) → (s_0 268 16 = s0 268 16) → (s_0 268 34 = s0 268 34) → (s_0 268 35 = s0 268 35) → (s_0 268 36 = s0 268 36) → (s_0 268 37 = s0 268 37) → (zLC c0 a M q 1 s_0) → (zWO s_0) → (s_0 268 15).toNat < fu → xW D g h0 s H locs s_0 → lv_has ls 3 [(0, .ref (h0 + 268)), (1, .int (xJ x))] → W p l e { frames := 1, cells := 0, slots := 0, locals := 20 } s m args below meth c H locs 0 0 Q (F0 m 0 ls []) := by
    intro fu
    induction fu with
    | zero => intro s_0 H locs ls hF_0 q0_0 q0_1 q0_2 q0_3 q0_4 q0_5 q0_6 q0_7 q0_8 q0_9 q0_10 q0_11 q0_12 q0_13 v0_0 v0_1 hm; exact absurd hm (Nat.not_lt_zero _)
    | succ fu ih0 =>
      intro s_0 H locs ls hF_0 q0_0 q0_1 q0_2 q0_3 q0_4 q0_5 q0_6 q0_7 q0_8 q0_9 q0_10 q0_11 q0_12 q0_13 v0_0 v0_1 hm hW hl
      have wt := v0_0.2.wt
      have cw := v0_0.2.cw
      have w1 := v0_1.1
      refine x_aload_n hx hb hl 0 rfl dX11_lands_0 rfl ?_
      refine x_goi (x_runV (As := []) hx hb hml hown hT hE hW hl.1 (Or.inl (by decide)) (so_268 h0 g _) rfl cf_X11_waitTop wq1507 wq123 wq1505 (c_X11_waitTop l D g T h0 s_0 hW.2.1 (wt) q0_0 q0_1 q0_2 q0_3) ⟨rfl, rfl, ⟨by decide, by decide⟩, ⟨by decide, by decide⟩⟩ rfl rfl (Nat.le_of_ble_eq_true rfl) dX11_lands_1) hW (fun x1 s2 H locs rx1 hp3 hW => ?_)
      obtain ⟨es2, hp3⟩ := hp3
      subst es2
      have ghp3 := hp3
      refine x_bipush hx hb dX11_lands_4 (by decide) ?_
      have J22 : ∀ (H : Heap) (locs : List Loc) (ls : Array Slot), (ztW s_0 = 11 ∨ ztW s_0 = 12) → xW D g h0 s H locs s_0 → lv_has ls 3 [(0, .ref (h0 + 268)), (1, .int (xJ x))] → W p l e { frames := 1, cells := 0, slots := 0, locals := 20 } s m args below meth c H locs 0 0 Q (F0 m 22 ls []) := by
        intro H locs ls v22_0 hW hl
        refine x_aload_n hx hb hl 0 rfl dX11_lands_22 rfl ?_
        refine x_get (j := 19) (v := .ref (h0 + 278)) hx hb hown hT hE hW cls_X11 (Or.inl (by decide)) (so_268 h0 g _) (by decide) rfl wq1204 dX11_lands_23 ?_
        have q4 : s_0 268 15 = s_0 268 15 := rfl
        have at9 := v0_0.jt v22_0
        refine x_aload_n hx hb hl 0 rfl dX11_lands_26 rfl ?_
        refine x_get (j := 15) (v := .int (xJ (s_0 268 15))) hx hb hown hT hE hW cls_X11 (Or.inl (by decide)) (so_268 h0 g _) (by decide) rfl wq1200 dX11_lands_27 ?_
        refine x_rd hW (fun x5 ex5 rx5 => ?_)
        have fx5 : x5 = s_0 268 15 := ex5.trans q4
        refine x_iconst hx hb dX11_lands_30 ?_
        refine x_isub hx hb dX11_lands_31 ?_
        refine x_iald hx hb hE hW (Or.inl (by decide)) (sa_278 h0 g _) (by omega) (by decide) dX11_lands_32 ?_
        refine x_rd hW (fun x6 ex6 rx6 => ?_)
        have z32 : x6 = s_0 278 (s_0 268 15 - 1) := by rw [ex6, show (x5 - 1) = s_0 268 15 - 1 from by omega]
        rw [← z32] at at9
        refine lv_ldc (v := xJ 1048576) hx hb hown (hT _ wq1482) dX11_lands_33 ?_
        refine x_irem hx hb rx6 (by decide) (by omega) (by decide) dX11_lands_35 ?_
        refine x_nm (fun x7 ex7 => ?_)
        refine lv_istore_n (lv' := [(2, .int (xJ x7)), (0, .ref (h0 + 268)), (1, .int (xJ x))]) hx hb dX11_lands_36 rfl hl (by decide) rfl (fun ls hl => ?_)
        have K36 : x7 = s_0 278 (s_0 268 15 - 1) % 1048576 := by rw [← z32]; omega
        rw [← ex7] at at9
        refine x_aload_n hx hb hl 1 rfl dX11_lands_37 rfl ?_
        refine x_get (j := 18) (v := .ref (h0 + 277)) hx hb hown hT hE hW cls_X11 (Or.inl (by decide)) (so_268 h0 g _) (by decide) rfl wq1203 dX11_lands_38 ?_
        refine x_iload_n hx hb hl 0 rfl dX11_lands_41 rfl ?_
        refine lv_ldc (v := xJ 1048576) hx hb hown (hT _ wq1482) dX11_lands_42 ?_
        refine x_aload_n hx hb hl 1 rfl dX11_lands_44 rfl ?_
        refine x_get (j := 18) (v := .ref (h0 + 277)) hx hb hown hT hE hW cls_X11 (Or.inl (by decide)) (so_268 h0 g _) (by decide) rfl wq1203 dX11_lands_45 ?_
        refine x_iload_n hx hb hl 0 rfl dX11_lands_48 rfl ?_
        refine x_iald hx hb hE hW (Or.inl (by decide)) (sa_277 h0 g _) (by omega) (by decide) dX11_lands_49 ?_
        refine x_rd hW (fun x8 ex8 rx8 => ?_)
        have z49 := ex8
        rw [← z49] at at9
        refine lv_ldc (v := xJ 1048576) hx hb hown (hT _ wq1482) dX11_lands_50 ?_
        refine x_idiv hx hb rx8 (by decide) (by omega) (by decide) dX11_lands_52 ?_
        refine x_imul hx hb dX11_lands_53 ?_
        refine x_aload_n hx hb hl 1 rfl dX11_lands_54 rfl ?_
        refine x_get (j := 14) (v := .int (xJ (s_0 268 14))) hx hb hown hT hE hW cls_X11 (Or.inl (by decide)) (so_268 h0 g _) (by decide) rfl wq1199 dX11_lands_55 ?_
        refine x_rd hW (fun x9 ex9 rx9 => ?_)
        have fx9 : x9 = s0 268 14 := ex9.trans q0_8
        refine x_iadd hx hb dX11_lands_58 ?_
        refine x_iast hx hb hE hW (by decide) (fun σ => sa_277 h0 g σ) (by omega) (by decide) (by omega) dX11_lands_59 (fun H locs s10 es10 hW => ?_)
        have q11 : IMn s10 := by rw [es10]; exact IMn_o (by unfold suIMn; omega) q0_0
        have q12 : IMk s10 := by rw [es10]; exact IMk_o (by unfold suIMk; omega) q0_1
        have q13 : IMo s10 := by rw [es10]; exact IMo_o (by unfold suIMo; omega) q0_2
        have q14 : IR s10 := by rw [es10]; exact IR_o (by unfold suIR; omega) q0_3
        have q15 : s10 268 8 = s0 268 8 := (show s10 268 8 = s_0 268 8 from by rw [es10, xU_k _ _ _ (by omega)]).trans q0_4
        have q16 : s10 268 58 = s0 268 58 := (show s10 268 58 = s_0 268 58 from by rw [es10, xU_k _ _ _ (by omega)]).trans q0_5
        have q17 : s10 268 9 = s0 268 9 := (show s10 268 9 = s_0 268 9 from by rw [es10, xU_k _ _ _ (by omega)]).trans q0_6
        have q18 : s10 268 10 = s0 268 10 := (show s10 268 10 = s_0 268 10 from by rw [es10, xU_k _ _ _ (by omega)]).trans q0_7
        have q19 : s10 268 14 = s0 268 14 := (show s10 268 14 = s_0 268 14 from by rw [es10, xU_k _ _ _ (by omega)]).trans q0_8
        have q20 : s10 268 16 = s0 268 16 := (show s10 268 16 = s_0 268 16 from by rw [es10, xU_k _ _ _ (by omega)]).trans q0_9
        have q21 : s10 268 34 = s0 268 34 := (show s10 268 34 = s_0 268 34 from by rw [es10, xU_k _ _ _ (by omega)]).trans q0_10
        have q22 : s10 268 35 = s0 268 35 := (show s10 268 35 = s_0 268 35 from by rw [es10, xU_k _ _ _ (by omega)]).trans q0_11
        have q23 : s10 268 36 = s0 268 36 := (show s10 268 36 = s_0 268 36 from by rw [es10, xU_k _ _ _ (by omega)]).trans q0_12
        have q24 : s10 268 37 = s0 268 37 := (show s10 268 37 = s_0 268 37 from by rw [es10, xU_k _ _ _ (by omega)]).trans q0_13
        have q25 : s10 268 15 = s_0 268 15 := (show s10 268 15 = s_0 268 15 from by rw [es10, xU_k _ _ _ (by omega)]).trans q4
        have hF26 := hF_0.put es10 (by omega)
        have E59 := es10
        have V59 : ((1048576 * (x8 / 1048576)) + x9) = 1048576 * (s_0 277 x7 / 1048576) + s_0 268 14 := by rw [← z49]; omega
        refine x_aload_n hx hb hl 1 rfl dX11_lands_60 rfl ?_
        refine x_aload_n hx hb hl 1 rfl dX11_lands_61 rfl ?_
        refine x_get (j := 15) (v := .int (xJ (s10 268 15))) hx hb hown hT hE hW cls_X11 (Or.inl (by decide)) (so_268 h0 g _) (by decide) rfl wq1200 dX11_lands_62 ?_
        refine x_rd hW (fun x27 ex27 rx27 => ?_)
        have fx27 : x27 = s_0 268 15 := ex27.trans q25
        refine x_iconst hx hb dX11_lands_65 ?_
        refine x_isub hx hb dX11_lands_66 ?_
        refine x_put (j := 15) hx hb hown hT hE hW cls_X11 (by decide) (fun σ => so_268 h0 g σ) (by decide) (st_X11_15 h0 s10 268 (x27 - 1)) (ln_X11_15 h0 _ _) wq1200 rfl rfl rfl (by omega) dX11_lands_67 (fun H locs s28 es28 hW => ?_)
        have q29 : IMn s28 := by rw [es28]; exact IMn_268 q11 (by omega)
        have q30 : IMk s28 := by rw [es28]; exact IMk_268 q12 (by omega)
        have q31 : IMo s28 := by rw [es28]; exact IMo_o (by unfold suIMo; omega) q13
        have q32 : IR s28 := by rw [es28]; exact IR_268 q14 (by omega)
        have q33 : s28 268 8 = s0 268 8 := (show s28 268 8 = s10 268 8 from by rw [es28, xU_j _ _ (by decide)]).trans q15
        have q34 : s28 268 58 = s0 268 58 := (show s28 268 58 = s10 268 58 from by rw [es28, xU_j _ _ (by decide)]).trans q16
        have q35 : s28 268 9 = s0 268 9 := (show s28 268 9 = s10 268 9 from by rw [es28, xU_j _ _ (by decide)]).trans q17
        have q36 : s28 268 10 = s0 268 10 := (show s28 268 10 = s10 268 10 from by rw [es28, xU_j _ _ (by decide)]).trans q18
        have q37 : s28 268 14 = s0 268 14 := (show s28 268 14 = s10 268 14 from by rw [es28, xU_j _ _ (by decide)]).trans q19
        have q38 : s28 268 16 = s0 268 16 := (show s28 268 16 = s10 268 16 from by rw [es28, xU_j _ _ (by decide)]).trans q20
        have q39 : s28 268 34 = s0 268 34 := (show s28 268 34 = s10 268 34 from by rw [es28, xU_j _ _ (by decide)]).trans q21
        have q40 : s28 268 35 = s0 268 35 := (show s28 268 35 = s10 268 35 from by rw [es28, xU_j _ _ (by decide)]).trans q22
        have q41 : s28 268 36 = s0 268 36 := (show s28 268 36 = s10 268 36 from by rw [es28, xU_j _ _ (by decide)]).trans q23
        have q42 : s28 268 37 = s0 268 37 := (show s28 268 37 = s10 268 37 from by rw [es28, xU_j _ _ (by decide)]).trans q24
        have q43 : s28 268 15 = (x27 - 1) := by rw [es28, xU_s]
        have hF44 := hF26.put es28 (by omega)
        have E67 := es28
        have R67 := congrFun E67 277
        rw [xU_k _ _ _ (by omega), E59, xU_xud] at R67
        have B67 : s28 278 = s_0 278 := by rw [E67, xU_k _ _ _ (by omega), E59, xU_k _ _ _ (by omega)]
        refine lv_goto (tgt := 0) hx hb dX11_lands_70 (by decide) ?_
        exact ih0 s28 H locs ls hF44 q29 q30 q31 q32 q33 q34 q35 q36 q37 q38 q39 q40 q41 q42 (v0_0.land v22_0 (by omega) (by omega) (by omega) (by omega) (by omega) K36 R67 V59 B67) (zWO_pop v0_1 (Or.inl (by omega)) (by omega) B67) (by omega) hW (lv_sub hl [1, 2] rfl)
      refine x_icmp_eq (tgt := 22) hx hb rx1 (by decide) dX11_lands_6 (by decide) (fun c45 => ?_) (fun c45 => ?_)
      · skip
        exact J22 H locs ls (by omega) hW (lv_sub hl [0, 1] rfl)
      refine x_iload_n hx hb hl 1 rfl dX11_lands_9 rfl ?_
      refine x_if_eq (tgt := 73) hx hb rx dX11_lands_10 (by decide) (fun c46 => ?_) (fun c46 => ?_)
      · skip
        rw [eQ]
        exact x_vret hx hb hr hlk hW ⟨hF_0, ⟨q0_0, q0_1, q0_2, q0_3, q0_4, q0_5, q0_6, q0_7, q0_8, q0_9, q0_10, q0_11, q0_12, q0_13, trivial⟩, ⟨v0_0, v0_1, by omega⟩⟩ dX11_lands_73
      refine x_aload_n hx hb hl 0 rfl dX11_lands_13 rfl ?_
      refine x_goi (x_runV (As := []) hx hb hml hown hT hE hW hl.1 (Or.inl (by decide)) (so_268 h0 g _) rfl cf_X11_waitTop wq1507 wq123 wq1505 (c_X11_waitTop l D g T h0 s_0 hW.2.1 (wt) q0_0 q0_1 q0_2 q0_3) ⟨rfl, rfl, ⟨by decide, by decide⟩, ⟨by decide, by decide⟩⟩ rfl rfl (Nat.le_of_ble_eq_true rfl) dX11_lands_14) hW (fun x47 s48 H locs rx47 hp49 hW => ?_)
      obtain ⟨es48, hp49⟩ := hp49
      subst es48
      have ghp49 := hp49
      refine x_bipush hx hb dX11_lands_17 (by decide) ?_
      refine x_icmp_ne (tgt := 73) hx hb rx47 (by decide) dX11_lands_19 (by decide) (fun c50 => ?_) (fun c50 => ?_)
      · skip
        rw [eQ]
        exact x_vret hx hb hr hlk hW ⟨hF_0, ⟨q0_0, q0_1, q0_2, q0_3, q0_4, q0_5, q0_6, q0_7, q0_8, q0_9, q0_10, q0_11, q0_12, q0_13, trivial⟩, ⟨v0_0, v0_1, by omega⟩⟩ dX11_lands_73
      exact J22 H locs ls (by omega) hW (lv_sub hl [0, 1] rfl)
  exact L0 ((s0 268 15 : Int).toNat + 1) s0 H locs ls hF p0 p1 p2 p3 k268_8 k268_58 k268_9 k268_10 k268_14 k268_16 k268_34 k268_35 k268_36 k268_37 (hlc) (hwo) (Nat.lt_succ_self _) hW (lv_sub hl [0, 1] rfl)
set_option maxHeartbeats 4000000 in
set_option maxRecDepth 100000 in
theorem c_X11_jumps (l : Launch) (D : va_G) (g : xG) (T : Nat × Nat × Nat) (h0 : Nat) (s0 : xS) (hσ : xRR s0) (o : Int) (ro : xR o) (c0 : Int → Int) (a : Int) (M : Int) (q : Int) (hlc : zLC c0 a M q 1 s0) (hwo : zWO s0) (hp : s0 268 9 < s0 268 10) (ho : o = 11 ∨ o = 12) (p0 : IMn s0) (p1 : IMk s0) (p2 : IMo s0) (p3 : IR s0) : Met l yX11_jumps (xws yX11_jumps cX11_jumps 2 none) { frames := 1, cells := 0, slots := 0, locals := 22 } (xP [.ref (h0 + 268), .int (xJ o)] D g T h0 s0) (xQv D g h0 (fun τ => xFr (fun k => k = 268 ∨ k = 277 ∨ k = 278) s0 τ ∧ (((IMn τ) ∧ (IMk τ) ∧ (IMo τ) ∧ (IR τ) ∧ (τ 268 8 = s0 268 8) ∧ (τ 268 58 = s0 268 58) ∧ (τ 268 10 = s0 268 10) ∧ (τ 268 16 = s0 268 16) ∧ (τ 268 34 = s0 268 34) ∧ (τ 268 35 = s0 268 35) ∧ (τ 268 36 = s0 268 36) ∧ (τ 268 37 = s0 268 37) ∧ True) ∧ (zLC c0 a M q 0 τ ∧ zWO τ ∧ τ 268 9 = s0 268 9 + 1)))) 0 0 (xA h0) := by
  refine x_met hσ (by decide) (Nat.le_of_ble_eq_true rfl) ?_
  intro p e s m args below meth c hx hb hr hml hown hT hlk hnm hE hW ls hl
  have hl : lv_has ls 2 [(0, .ref (h0 + 268)), (1, .int (xJ o))] := hl
  obtain ⟨Q, eQ⟩ : ∃ Q, Q = MQ below (xQv D g h0 (fun τ => xFr (fun k => k = 268 ∨ k = 277 ∨ k = 278) s0 τ ∧ (((IMn τ) ∧ (IMk τ) ∧ (IMo τ) ∧ (IR τ) ∧ (τ 268 8 = s0 268 8) ∧ (τ 268 58 = s0 268 58) ∧ (τ 268 10 = s0 268 10) ∧ (τ 268 16 = s0 268 16) ∧ (τ 268 34 = s0 268 34) ∧ (τ 268 35 = s0 268 35) ∧ (τ 268 36 = s0 268 36) ∧ (τ 268 37 = s0 268 37) ∧ True) ∧ (zLC c0 a M q 0 τ ∧ zWO τ ∧ τ 268 9 = s0 268 9 + 1)))) args s 0 0 (xA h0) := ⟨_, rfl⟩
  rw [← eQ]
  generalize hHe : ([] : List Loc) = locs at hW ⊢
  obtain ⟨H, eH⟩ : ∃ H, H = s.heap := ⟨_, rfl⟩
  rw [← eH] at hW ⊢
  have hF : xFr (fun k => k = 268 ∨ k = 277 ∨ k = 278) s0 s0 := xFr.rf
  have k268_8 : s0 268 8 = s0 268 8 := rfl
  have k268_58 : s0 268 58 = s0 268 58 := rfl
  have k268_10 : s0 268 10 = s0 268 10 := rfl
  have k268_16 : s0 268 16 = s0 268 16 := rfl
  have k268_34 : s0 268 34 = s0 268 34 := rfl
  have k268_35 : s0 268 35 = s0 268 35 := rfl
  have k268_36 : s0 268 36 = s0 268 36 := rfl
  have k268_37 : s0 268 37 = s0 268 37 := rfl
  have k268_9 : s0 268 9 = s0 268 9 := rfl
  have k268_14 : s0 268 14 = s0 268 14 := rfl
  have k268_15 : s0 268 15 = s0 268 15 := rfl
  have cw := hlc.2.cw
  refine x_aload_n hx hb hl 0 rfl dX11_jumps_0 rfl ?_
  refine x_get (j := 19) (v := .ref (h0 + 278)) hx hb hown hT hE hW cls_X11 (Or.inl (by decide)) (so_268 h0 g _) (by decide) rfl wq1204 dX11_jumps_1 ?_
  refine x_aload_n hx hb hl 0 rfl dX11_jumps_4 rfl ?_
  refine x_get (j := 15) (v := .int (xJ (s0 268 15))) hx hb hown hT hE hW cls_X11 (Or.inl (by decide)) (so_268 h0 g _) (by decide) rfl wq1200 dX11_jumps_5 ?_
  refine x_rd hW (fun x1 ex1 rx1 => ?_)
  have fx1 : x1 = s0 268 15 := ex1.trans k268_15
  refine lv_ldc (v := xJ 1048576) hx hb hown (hT _ wq1482) dX11_jumps_8 ?_
  refine x_iload_n hx hb hl 1 rfl dX11_jumps_10 rfl ?_
  refine x_imul hx hb dX11_jumps_11 ?_
  refine x_aload_n hx hb hl 0 rfl dX11_jumps_12 rfl ?_
  refine x_get (j := 14) (v := .int (xJ (s0 268 14))) hx hb hown hT hE hW cls_X11 (Or.inl (by decide)) (so_268 h0 g _) (by decide) rfl wq1199 dX11_jumps_13 ?_
  refine x_rd hW (fun x2 ex2 rx2 => ?_)
  have fx2 : x2 = s0 268 14 := ex2.trans k268_14
  refine x_iadd hx hb dX11_jumps_16 ?_
  refine x_iast hx hb hE hW (by decide) (fun σ => sa_278 h0 g σ) (by omega) (by decide) (by omega) dX11_jumps_17 (fun H locs s3 es3 hW => ?_)
  have q4 : IMn s3 := by rw [es3]; exact IMn_o (by unfold suIMn; omega) p0
  have q5 : IMk s3 := by rw [es3]; exact IMk_o (by unfold suIMk; omega) p1
  have q6 : IMo s3 := by rw [es3]; exact IMo_o (by unfold suIMo; omega) p2
  have q7 : IR s3 := by rw [es3]; exact IR_o (by unfold suIR; omega) p3
  have q8 : s3 268 8 = s0 268 8 := (show s3 268 8 = s0 268 8 from by rw [es3, xU_k _ _ _ (by omega)]).trans k268_8
  have q9 : s3 268 58 = s0 268 58 := (show s3 268 58 = s0 268 58 from by rw [es3, xU_k _ _ _ (by omega)]).trans k268_58
  have q10 : s3 268 10 = s0 268 10 := (show s3 268 10 = s0 268 10 from by rw [es3, xU_k _ _ _ (by omega)]).trans k268_10
  have q11 : s3 268 16 = s0 268 16 := (show s3 268 16 = s0 268 16 from by rw [es3, xU_k _ _ _ (by omega)]).trans k268_16
  have q12 : s3 268 34 = s0 268 34 := (show s3 268 34 = s0 268 34 from by rw [es3, xU_k _ _ _ (by omega)]).trans k268_34
  have q13 : s3 268 35 = s0 268 35 := (show s3 268 35 = s0 268 35 from by rw [es3, xU_k _ _ _ (by omega)]).trans k268_35
  have q14 : s3 268 36 = s0 268 36 := (show s3 268 36 = s0 268 36 from by rw [es3, xU_k _ _ _ (by omega)]).trans k268_36
  have q15 : s3 268 37 = s0 268 37 := (show s3 268 37 = s0 268 37 from by rw [es3, xU_k _ _ _ (by omega)]).trans k268_37
  have q16 : s3 268 9 = s0 268 9 := (show s3 268 9 = s0 268 9 from by rw [es3, xU_k _ _ _ (by omega)]).trans k268_9
  have q17 : s3 268 14 = s0 268 14 := (show s3 268 14 = s0 268 14 from by rw [es3, xU_k _ _ _ (by omega)]).trans k268_14
  have q18 : s3 268 15 = s0 268 15 := (show s3 268 15 = s0 268 15 from by rw [es3, xU_k _ _ _ (by omega)]).trans k268_15
  have hF19 := hF.put es3 (by omega)
  have R17 : s3 278 = xud (s0 278) (s0 268 15) (1048576 * o + s0 268 14) := by rw [es3, xU_xud, show x1 = s0 268 15 from by omega, show ((1048576 * o) + x2) = 1048576 * o + s0 268 14 from by omega]
  have T17 : s3 277 = s0 277 := by rw [es3, xU_k _ _ _ (by omega)]
  refine x_aload_n hx hb hl 0 rfl dX11_jumps_18 rfl ?_
  refine x_aload_n hx hb hl 0 rfl dX11_jumps_19 rfl ?_
  refine x_get (j := 15) (v := .int (xJ (s3 268 15))) hx hb hown hT hE hW cls_X11 (Or.inl (by decide)) (so_268 h0 g _) (by decide) rfl wq1200 dX11_jumps_20 ?_
  refine x_rd hW (fun x20 ex20 rx20 => ?_)
  have fx20 : x20 = s0 268 15 := ex20.trans q18
  refine x_iconst hx hb dX11_jumps_23 ?_
  refine x_iadd hx hb dX11_jumps_24 ?_
  refine x_put (j := 15) hx hb hown hT hE hW cls_X11 (by decide) (fun σ => so_268 h0 g σ) (by decide) (st_X11_15 h0 s3 268 (x20 + 1)) (ln_X11_15 h0 _ _) wq1200 rfl rfl rfl (by omega) dX11_jumps_25 (fun H locs s21 es21 hW => ?_)
  have q22 : IMn s21 := by rw [es21]; exact IMn_268 q4 (by omega)
  have q23 : IMk s21 := by rw [es21]; exact IMk_268 q5 (by omega)
  have q24 : IMo s21 := by rw [es21]; exact IMo_o (by unfold suIMo; omega) q6
  have q25 : IR s21 := by rw [es21]; exact IR_268 q7 (by omega)
  have q26 : s21 268 8 = s0 268 8 := (show s21 268 8 = s3 268 8 from by rw [es21, xU_j _ _ (by decide)]).trans q8
  have q27 : s21 268 58 = s0 268 58 := (show s21 268 58 = s3 268 58 from by rw [es21, xU_j _ _ (by decide)]).trans q9
  have q28 : s21 268 10 = s0 268 10 := (show s21 268 10 = s3 268 10 from by rw [es21, xU_j _ _ (by decide)]).trans q10
  have q29 : s21 268 16 = s0 268 16 := (show s21 268 16 = s3 268 16 from by rw [es21, xU_j _ _ (by decide)]).trans q11
  have q30 : s21 268 34 = s0 268 34 := (show s21 268 34 = s3 268 34 from by rw [es21, xU_j _ _ (by decide)]).trans q12
  have q31 : s21 268 35 = s0 268 35 := (show s21 268 35 = s3 268 35 from by rw [es21, xU_j _ _ (by decide)]).trans q13
  have q32 : s21 268 36 = s0 268 36 := (show s21 268 36 = s3 268 36 from by rw [es21, xU_j _ _ (by decide)]).trans q14
  have q33 : s21 268 37 = s0 268 37 := (show s21 268 37 = s3 268 37 from by rw [es21, xU_j _ _ (by decide)]).trans q15
  have q34 : s21 268 9 = s0 268 9 := (show s21 268 9 = s3 268 9 from by rw [es21, xU_j _ _ (by decide)]).trans q16
  have q35 : s21 268 14 = s0 268 14 := (show s21 268 14 = s3 268 14 from by rw [es21, xU_j _ _ (by decide)]).trans q17
  have q36 : s21 268 15 = (x20 + 1) := by rw [es21, xU_s]
  have hF37 := hF19.put es21 (by omega)
  have R25 : s21 278 = xud (s0 278) (s0 268 15) (1048576 * o + s0 268 14) := by rw [es21, xU_k _ _ _ (by omega), R17]
  have T25 : s21 277 = s0 277 := by rw [es21, xU_k _ _ _ (by omega), T17]
  have C25 : s21 268 14 = s0 268 14 := by omega
  refine x_aload_n hx hb hl 0 rfl dX11_jumps_28 rfl ?_
  refine x_iload_n hx hb hl 1 rfl dX11_jumps_29 rfl ?_
  refine x_iconst hx hb dX11_jumps_30 ?_
  refine x_gov (x_runV (As := [.int (xJ o), .int (xJ 0)]) hx hb hml hown hT hE hW hl.1 (Or.inl (by decide)) (so_268 h0 g _) rfl cf_X11_notes wq1493 wq121 wq1491 (c_X11_notes l D g T h0 s21 hW.2.1 o ro 0 (by decide) (by omega) (by omega) (by omega) q22 q23 q24 q25) ⟨rfl, rfl, ⟨by decide, by decide⟩, ⟨by decide, by decide⟩⟩ rfl rfl (Nat.le_of_ble_eq_true rfl) dX11_jumps_31) hW (fun s39 H locs hp40 hW => ?_)
  obtain ⟨fs39, hp40⟩ := hp40
  have hF41 := hF37.call fs39 (fun k h => by omega)
  have ghp40 := hp40.2
  have q42 : s39 268 14 = s0 268 14 + 1 := ghp40.trans (by omega)
  have R31 := (fs39 278 (by omega)).trans R25
  have T31 := hp40.1.2.2.2.2.1
  rw [T25, C25] at T31
  refine x_aload_n hx hb hl 0 rfl dX11_jumps_34 rfl ?_
  refine x_aload_n hx hb hl 0 rfl dX11_jumps_35 rfl ?_
  refine x_get (j := 9) (v := .int (xJ (s39 268 9))) hx hb hown hT hE hW cls_X11 (Or.inl (by decide)) (so_268 h0 g _) (by decide) rfl wq1194 dX11_jumps_36 ?_
  refine x_rd hW (fun x43 ex43 rx43 => ?_)
  have bx43 : 0 ≤ x43 ∧ x43 ≤ s39 268 10 ∧ s39 268 10 ≤ 240 := by rw [ex43]; exact hp40.1.2.2.2.1
  have fx43 : x43 = s0 268 9 := ex43.trans (hp40.1.2.2.2.2.2.2.2.1.trans q34)
  refine x_iconst hx hb dX11_jumps_39 ?_
  refine x_iadd hx hb dX11_jumps_40 ?_
  refine x_put (j := 9) hx hb hown hT hE hW cls_X11 (by decide) (fun σ => so_268 h0 g σ) (by decide) (st_X11_9 h0 s39 268 (x43 + 1)) (ln_X11_9 h0 _ _) wq1194 rfl rfl rfl (by omega) dX11_jumps_41 (fun H locs s44 es44 hW => ?_)
  have q45 : IMn s44 := by rw [es44]; exact IMn_268 hp40.1.1 (by omega)
  have q46 : IMk s44 := by rw [es44]; exact IMk_268 hp40.1.2.1 (by omega)
  have q47 : IMo s44 := by rw [es44]; exact IMo_o (by unfold suIMo; omega) hp40.1.2.2.1
  have q48 : IR s44 := by rw [es44]; exact IR_268 hp40.1.2.2.2.1 (by omega)
  have q49 : s44 277 = xud (s21 277) (s21 268 14) (1048576 * o + 0) := (show s44 277 = s39 277 from by rw [es44, xU_k _ _ _ (by omega)]).trans hp40.1.2.2.2.2.1
  have q50 : s44 268 8 = s0 268 8 := (show s44 268 8 = s39 268 8 from by rw [es44, xU_j _ _ (by decide)]).trans (hp40.1.2.2.2.2.2.1.trans q26)
  have q51 : s44 268 58 = s0 268 58 := (show s44 268 58 = s39 268 58 from by rw [es44, xU_j _ _ (by decide)]).trans (hp40.1.2.2.2.2.2.2.1.trans q27)
  have q52 : s44 268 9 = (x43 + 1) := by rw [es44, xU_s]
  have q53 : s44 268 10 = s0 268 10 := (show s44 268 10 = s39 268 10 from by rw [es44, xU_j _ _ (by decide)]).trans (hp40.1.2.2.2.2.2.2.2.2.1.trans q28)
  have q54 : s44 268 15 = (x20 + 1) := (show s44 268 15 = s39 268 15 from by rw [es44, xU_j _ _ (by decide)]).trans (hp40.1.2.2.2.2.2.2.2.2.2.1.trans q36)
  have q55 : s44 268 16 = s0 268 16 := (show s44 268 16 = s39 268 16 from by rw [es44, xU_j _ _ (by decide)]).trans (hp40.1.2.2.2.2.2.2.2.2.2.2.1.trans q29)
  have q56 : s44 268 34 = s0 268 34 := (show s44 268 34 = s39 268 34 from by rw [es44, xU_j _ _ (by decide)]).trans (hp40.1.2.2.2.2.2.2.2.2.2.2.2.1.trans q30)
  have q57 : s44 268 35 = s0 268 35 := (show s44 268 35 = s39 268 35 from by rw [es44, xU_j _ _ (by decide)]).trans (hp40.1.2.2.2.2.2.2.2.2.2.2.2.2.1.trans q31)
  have q58 : s44 268 36 = s0 268 36 := (show s44 268 36 = s39 268 36 from by rw [es44, xU_j _ _ (by decide)]).trans (hp40.1.2.2.2.2.2.2.2.2.2.2.2.2.2.1.trans q32)
  have q59 : s44 268 37 = s0 268 37 := (show s44 268 37 = s39 268 37 from by rw [es44, xU_j _ _ (by decide)]).trans (hp40.1.2.2.2.2.2.2.2.2.2.2.2.2.2.2.1.trans q33)
  have q60 : s44 268 14 = s0 268 14 + 1 := (show s44 268 14 = s39 268 14 from by rw [es44, xU_j _ _ (by decide)]).trans q42
  have hF61 := hF41.put es44 (by omega)
  have R41 : s44 278 = xud (s0 278) (s0 268 15) (1048576 * o + s0 268 14) := by rw [es44, xU_k _ _ _ (by omega), R31]
  have T41 : s44 277 = xud (s0 277) (s0 268 14) (1048576 * o) := by rw [es44, xU_k _ _ _ (by omega), T31]; simp
  rw [eQ]
  exact x_vret hx hb hr hlk hW ⟨hF61, ⟨q45, q46, q47, q48, q50, q51, q53, q55, q56, q57, q58, q59, trivial⟩, ⟨hlc.jump ho ⟨by omega, by omega⟩ (by omega) (by omega) (by omega) (by omega) T41 R41, zWO_push hwo (by omega) R41, by omega⟩⟩ dX11_jumps_44
set_option maxHeartbeats 4000000 in
set_option maxRecDepth 100000 in
theorem c_X11_readsCompared (l : Launch) (D : va_G) (g : xG) (T : Nat × Nat × Nat) (h0 : Nat) (s0 : xS) (hσ : xRR s0) (c0 : Int → Int) (a : Int) (M : Int) (hlc : zLC c0 a M 0 0 s0) (hwo : zWO s0) (p0 : IMn s0) (p1 : IMk s0) (p2 : IMo s0) (p3 : IR s0) : Met l yX11_readsCompared (xws yX11_readsCompared cX11_readsCompared 2 (some .boolean)) { frames := 5, cells := 0, slots := 0, locals := 104 } (xP [.ref (h0 + 268)] D g T h0 s0) (xQi D g h0 (fun r τ => xFr (fun k => k = 268 ∨ k = 277 ∨ k = 278) s0 τ ∧ (((IMn τ) ∧ (IMk τ) ∧ (IMo τ) ∧ (IR τ) ∧ (τ 268 8 = s0 268 8) ∧ (τ 268 58 = s0 268 58) ∧ (τ 268 10 = s0 268 10) ∧ (τ 268 16 = s0 268 16) ∧ (τ 268 34 = s0 268 34) ∧ (τ 268 35 = s0 268 35) ∧ (τ 268 36 = s0 268 36) ∧ (τ 268 37 = s0 268 37) ∧ True) ∧ ((r = 0 ∧ s0 268 9 ≤ τ 268 9) ∨ (r = 1 ∧ s0 268 9 + 1 ≤ τ 268 9 ∧ zLC c0 a M 0 1 τ ∧ zWO τ))))) 0 0 (xA h0) := by
  refine x_met hσ (by decide) (Nat.le_of_ble_eq_true rfl) ?_
  intro p e s m args below meth c hx hb hr hml hown hT hlk hnm hE hW ls hl
  have hl : lv_has ls 2 [(0, .ref (h0 + 268))] := hl
  obtain ⟨Q, eQ⟩ : ∃ Q, Q = MQ below (xQi D g h0 (fun r τ => xFr (fun k => k = 268 ∨ k = 277 ∨ k = 278) s0 τ ∧ (((IMn τ) ∧ (IMk τ) ∧ (IMo τ) ∧ (IR τ) ∧ (τ 268 8 = s0 268 8) ∧ (τ 268 58 = s0 268 58) ∧ (τ 268 10 = s0 268 10) ∧ (τ 268 16 = s0 268 16) ∧ (τ 268 34 = s0 268 34) ∧ (τ 268 35 = s0 268 35) ∧ (τ 268 36 = s0 268 36) ∧ (τ 268 37 = s0 268 37) ∧ True) ∧ ((r = 0 ∧ s0 268 9 ≤ τ 268 9) ∨ (r = 1 ∧ s0 268 9 + 1 ≤ τ 268 9 ∧ zLC c0 a M 0 1 τ ∧ zWO τ))))) args s 0 0 (xA h0) := ⟨_, rfl⟩
  rw [← eQ]
  generalize hHe : ([] : List Loc) = locs at hW ⊢
  obtain ⟨H, eH⟩ : ∃ H, H = s.heap := ⟨_, rfl⟩
  rw [← eH] at hW ⊢
  have hF : xFr (fun k => k = 268 ∨ k = 277 ∨ k = 278) s0 s0 := xFr.rf
  have k268_8 : s0 268 8 = s0 268 8 := rfl
  have k268_58 : s0 268 58 = s0 268 58 := rfl
  have k268_10 : s0 268 10 = s0 268 10 := rfl
  have k268_16 : s0 268 16 = s0 268 16 := rfl
  have k268_34 : s0 268 34 = s0 268 34 := rfl
  have k268_35 : s0 268 35 = s0 268 35 := rfl
  have k268_36 : s0 268 36 = s0 268 36 := rfl
  have k268_37 : s0 268 37 = s0 268 37 := rfl
  have k268_9 : s0 268 9 = s0 268 9 := rfl
  have k268_14 : s0 268 14 = s0 268 14 := rfl
  have k268_15 : s0 268 15 = s0 268 15 := rfl
  refine x_aload_n hx hb hl 0 rfl dX11_readsCompared_0 rfl ?_
  refine x_goi (x_runV (As := []) hx hb hml hown hT hE hW hl.1 (Or.inl (by decide)) (so_268 h0 g _) rfl cf_X11_readsSum wq1472 wq116 wq1470 (c_X11_readsSum l D g T h0 s0 hW.2.1 c0 a M 0 0 (hlc) p0 p1 p2 p3) ⟨rfl, rfl, ⟨by decide, by decide⟩, ⟨by decide, by decide⟩⟩ rfl rfl (Nat.le_of_ble_eq_true rfl) dX11_readsCompared_1) hW (fun x1 s2 H locs rx1 hp3 hW => ?_)
  obtain ⟨fs2, hp3⟩ := hp3
  have hF4 := hF.call fs2 (fun k h => by omega)
  have ghp3 := hp3.2
  have A1 := ghp3
  refine x_if_ne (tgt := 9) hx hb rx1 dX11_readsCompared_4 (by decide) (fun c5 => ?_) (fun c5 => ?_)
  · skip
    refine x_aload_n hx hb hl 0 rfl dX11_readsCompared_9 rfl ?_
    refine x_goi (x_runV (As := []) hx hb hml hown hT hE hW hl.1 (Or.inl (by decide)) (so_268 h0 g _) rfl cf_X11_here wq1391 wq106 wq1389 (c_X11_here l D g T h0 s2 hW.2.1 hp3.1.1 hp3.1.2.1 hp3.1.2.2.1 hp3.1.2.2.2.1) ⟨rfl, rfl, ⟨by decide, by decide⟩, ⟨by decide, by decide⟩⟩ rfl rfl (Nat.le_of_ble_eq_true rfl) dX11_readsCompared_10) hW (fun x6 s7 H locs rx6 hp8 hW => ?_)
    obtain ⟨es7, hp8⟩ := hp8
    subst es7
    have ghp8 := hp8
    refine x_bipush hx hb dX11_readsCompared_13 (by decide) ?_
    have J52 : ∀ (t0_52 : Int) (H : Heap) (locs : List Loc) (ls : Array Slot), (xR t0_52) → (t0_52 = -1 ∨ (7 ≤ t0_52 ∧ t0_52 ≤ 9 ∧ s2 268 9 < s2 268 10)) → xW D g h0 s H locs s2 → lv_has ls 2 [(0, .ref (h0 + 268))] → W p l e { frames := 5, cells := 0, slots := 0, locals := 104 } s m args below meth c H locs 0 0 Q (F0 m 52 ls [.int (xJ t0_52)]) := by
      intro t0_52 H locs ls rt0_52 v52_0 hW hl
      refine lv_istore_n (lv' := [(1, .int (xJ t0_52)), (0, .ref (h0 + 268))]) hx hb dX11_readsCompared_52 rfl hl (by decide) rfl (fun ls hl => ?_)
      refine x_iload_n hx hb hl 0 rfl dX11_readsCompared_53 rfl ?_
      refine x_iconst hx hb dX11_readsCompared_54 ?_
      refine x_icmp_ne (tgt := 68) hx hb rt0_52 (by decide) dX11_readsCompared_55 (by decide) (fun c9 => ?_) (fun c9 => ?_)
      · skip
        refine x_aload_n hx hb hl 1 rfl dX11_readsCompared_68 rfl ?_
        refine x_aload_n hx hb hl 1 rfl dX11_readsCompared_69 rfl ?_
        have A1b := (A1.resolve_left (fun q => absurd q.1 (by omega))).2
        have W1 := zWO_f hwo A1b.2.1 A1b.2.2.2
        refine x_get (j := 9) (v := .int (xJ (s2 268 9))) hx hb hown hT hE hW cls_X11 (Or.inl (by decide)) (so_268 h0 g _) (by decide) rfl wq1194 dX11_readsCompared_70 ?_
        refine x_rd hW (fun x10 ex10 rx10 => ?_)
        have bx10 : 0 ≤ x10 ∧ x10 ≤ s2 268 10 ∧ s2 268 10 ≤ 240 := by rw [ex10]; exact hp3.1.2.2.2.1
        have q11 : s2 268 9 = x10 := ex10.symm
        refine x_iconst hx hb dX11_readsCompared_73 ?_
        refine x_iadd hx hb dX11_readsCompared_74 ?_
        refine x_put (j := 9) hx hb hown hT hE hW cls_X11 (by decide) (fun σ => so_268 h0 g σ) (by decide) (st_X11_9 h0 s2 268 (x10 + 1)) (ln_X11_9 h0 _ _) wq1194 rfl rfl rfl (by omega) dX11_readsCompared_75 (fun H locs s12 es12 hW => ?_)
        have q13 : IMn s12 := by rw [es12]; exact IMn_268 hp3.1.1 (by omega)
        have q14 : IMk s12 := by rw [es12]; exact IMk_268 hp3.1.2.1 (by omega)
        have q15 : IMo s12 := by rw [es12]; exact IMo_o (by unfold suIMo; omega) hp3.1.2.2.1
        have q16 : IR s12 := by rw [es12]; exact IR_268 hp3.1.2.2.2.1 (by omega)
        have q17 : s12 268 8 = s0 268 8 := (show s12 268 8 = s2 268 8 from by rw [es12, xU_j _ _ (by decide)]).trans (hp3.1.2.2.2.2.1.trans k268_8)
        have q18 : s12 268 58 = s0 268 58 := (show s12 268 58 = s2 268 58 from by rw [es12, xU_j _ _ (by decide)]).trans (hp3.1.2.2.2.2.2.1.trans k268_58)
        have q19 : s12 268 10 = s0 268 10 := (show s12 268 10 = s2 268 10 from by rw [es12, xU_j _ _ (by decide)]).trans (hp3.1.2.2.2.2.2.2.1.trans k268_10)
        have q20 : s12 268 16 = s0 268 16 := (show s12 268 16 = s2 268 16 from by rw [es12, xU_j _ _ (by decide)]).trans (hp3.1.2.2.2.2.2.2.2.1.trans k268_16)
        have q21 : s12 268 34 = s0 268 34 := (show s12 268 34 = s2 268 34 from by rw [es12, xU_j _ _ (by decide)]).trans (hp3.1.2.2.2.2.2.2.2.2.1.trans k268_34)
        have q22 : s12 268 35 = s0 268 35 := (show s12 268 35 = s2 268 35 from by rw [es12, xU_j _ _ (by decide)]).trans (hp3.1.2.2.2.2.2.2.2.2.2.1.trans k268_35)
        have q23 : s12 268 36 = s0 268 36 := (show s12 268 36 = s2 268 36 from by rw [es12, xU_j _ _ (by decide)]).trans (hp3.1.2.2.2.2.2.2.2.2.2.2.1.trans k268_36)
        have q24 : s12 268 37 = s0 268 37 := (show s12 268 37 = s2 268 37 from by rw [es12, xU_j _ _ (by decide)]).trans (hp3.1.2.2.2.2.2.2.2.2.2.2.2.1.trans k268_37)
        have q25 : s12 268 9 = (x10 + 1) := by rw [es12, xU_s]
        have hF26 := hF4.put es12 (by omega)
        have B75 : zLC c0 a M 1 (0 + 1) s12 := A1b.2.2.1.place ⟨by omega, by omega, by omega⟩ (by omega) (by simp [es12, xU]) (by simp [es12, xU]) (by simp [es12, xU]) (by simp [es12, xU]) (by rw [es12, xU_k _ _ _ (by omega)]) (by rw [es12, xU_k _ _ _ (by omega)])
        have W75 : zWO s12 := zWO_f W1 (by simp [es12, xU]) (fun i _ _ => by rw [es12, xU_k _ _ _ (by omega)])
        refine x_aload_n hx hb hl 1 rfl dX11_readsCompared_78 rfl ?_
        refine x_goi (x_runV (As := []) hx hb hml hown hT hE hW hl.1 (Or.inl (by decide)) (so_268 h0 g _) rfl cf_X11_readsSum wq1472 wq116 wq1470 (c_X11_readsSum l D g T h0 s12 hW.2.1 c0 a M 1 (0 + 1) (B75) q13 q14 q15 q16) ⟨rfl, rfl, ⟨by decide, by decide⟩, ⟨by decide, by decide⟩⟩ rfl rfl (Nat.le_of_ble_eq_true rfl) dX11_readsCompared_79) hW (fun x27 s28 H locs rx27 hp29 hW => ?_)
        obtain ⟨fs28, hp29⟩ := hp29
        have hF30 := hF26.call fs28 (fun k h => by omega)
        have ghp29 := hp29.2
        have A79 := ghp29
        refine x_if_ne (tgt := 87) hx hb rx27 dX11_readsCompared_82 (by decide) (fun c31 => ?_) (fun c31 => ?_)
        · skip
          refine x_aload_n hx hb hl 1 rfl dX11_readsCompared_87 rfl ?_
          have A79b := (A79.resolve_left (fun q => absurd q.1 (by omega))).2
          have W79 := zWO_f W75 A79b.2.1 A79b.2.2.2
          have cw79 := A79b.2.2.1.2.cw
          refine x_iload_n hx hb hl 0 rfl dX11_readsCompared_88 rfl ?_
          refine x_iconst hx hb dX11_readsCompared_89 ?_
          refine x_gov (x_runV (As := [.int (xJ t0_52), .int (xJ 0)]) hx hb hml hown hT hE hW hl.1 (Or.inl (by decide)) (so_268 h0 g _) rfl cf_X11_notes wq1493 wq121 wq1491 (c_X11_notes l D g T h0 s28 hW.2.1 t0_52 rt0_52 0 (by decide) (by omega) (by omega) (by omega) hp29.1.1 hp29.1.2.1 hp29.1.2.2.1 hp29.1.2.2.2.1) ⟨rfl, rfl, ⟨by decide, by decide⟩, ⟨by decide, by decide⟩⟩ rfl rfl (Nat.le_of_ble_eq_true rfl) dX11_readsCompared_90) hW (fun s33 H locs hp34 hW => ?_)
          obtain ⟨fs33, hp34⟩ := hp34
          have hF35 := hF30.call fs33 (fun k h => by omega)
          have ghp34 := hp34.2
          have B90 : zLC c0 a M 0 ((0 + 1 + 1) - 1) s33 := A79b.2.2.1.cmp (by omega) (by omega) (by omega) (by omega) ghp34 (by omega) (by omega) hp34.1.2.2.2.2.1 (fs33 278 (by omega)) rfl
          have W90 : zWO s33 := zWO_f W79 (by omega) (fun i _ _ => by rw [fs33 278 (by omega)])
          refine x_aload_n hx hb hl 1 rfl dX11_readsCompared_93 rfl ?_
          refine x_gov (x_runV (As := []) hx hb hml hown hT hE hW hl.1 (Or.inl (by decide)) (so_268 h0 g _) rfl cf_X11_endsPiece wq1523 wq127 wq1521 (c_X11_endsPiece l D g T h0 s33 hW.2.1 c0 a M 0 ((0 + 1 + 1) - 1) (B90) (by omega) (W90) hp34.1.1 hp34.1.2.1 hp34.1.2.2.1 hp34.1.2.2.2.1) ⟨rfl, rfl, ⟨by decide, by decide⟩, ⟨by decide, by decide⟩⟩ rfl rfl (Nat.le_of_ble_eq_true rfl) dX11_readsCompared_94) hW (fun s37 H locs hp38 hW => ?_)
          obtain ⟨fs37, hp38⟩ := hp38
          have hF39 := hF35.call fs37 (fun k h => by omega)
          have ghp38 := hp38.2
          have A94 := ghp38
          refine x_iconst hx hb dX11_readsCompared_97 ?_
          rw [eQ]
          exact x_zret hx hb hr hlk hW (by omega) ⟨hF39, ⟨hp38.1.1, hp38.1.2.1, hp38.1.2.2.1, hp38.1.2.2.2.1, (hp38.1.2.2.2.2.1.trans (hp34.1.2.2.2.2.2.1.trans (hp29.1.2.2.2.2.1.trans q17))), (hp38.1.2.2.2.2.2.1.trans (hp34.1.2.2.2.2.2.2.1.trans (hp29.1.2.2.2.2.2.1.trans q18))), (hp38.1.2.2.2.2.2.2.2.1.trans (hp34.1.2.2.2.2.2.2.2.2.1.trans (hp29.1.2.2.2.2.2.2.1.trans q19))), (hp38.1.2.2.2.2.2.2.2.2.1.trans (hp34.1.2.2.2.2.2.2.2.2.2.2.1.trans (hp29.1.2.2.2.2.2.2.2.1.trans q20))), (hp38.1.2.2.2.2.2.2.2.2.2.1.trans (hp34.1.2.2.2.2.2.2.2.2.2.2.2.1.trans (hp29.1.2.2.2.2.2.2.2.2.1.trans q21))), (hp38.1.2.2.2.2.2.2.2.2.2.2.1.trans (hp34.1.2.2.2.2.2.2.2.2.2.2.2.2.1.trans (hp29.1.2.2.2.2.2.2.2.2.2.1.trans q22))), (hp38.1.2.2.2.2.2.2.2.2.2.2.2.1.trans (hp34.1.2.2.2.2.2.2.2.2.2.2.2.2.2.1.trans (hp29.1.2.2.2.2.2.2.2.2.2.2.1.trans q23))), (hp38.1.2.2.2.2.2.2.2.2.2.2.2.2.1.trans (hp34.1.2.2.2.2.2.2.2.2.2.2.2.2.2.2.1.trans (hp29.1.2.2.2.2.2.2.2.2.2.2.2.1.trans q24))), trivial⟩, Or.inr ⟨rfl, by omega, A94.1, A94.2⟩⟩ dX11_readsCompared_98
        refine x_iconst hx hb dX11_readsCompared_85 ?_
        rw [eQ]
        exact x_zret hx hb hr hlk hW (by omega) ⟨hF30, ⟨hp29.1.1, hp29.1.2.1, hp29.1.2.2.1, hp29.1.2.2.2.1, (hp29.1.2.2.2.2.1.trans q17), (hp29.1.2.2.2.2.2.1.trans q18), (hp29.1.2.2.2.2.2.2.1.trans q19), (hp29.1.2.2.2.2.2.2.2.1.trans q20), (hp29.1.2.2.2.2.2.2.2.2.1.trans q21), (hp29.1.2.2.2.2.2.2.2.2.2.1.trans q22), (hp29.1.2.2.2.2.2.2.2.2.2.2.1.trans q23), (hp29.1.2.2.2.2.2.2.2.2.2.2.2.1.trans q24), trivial⟩, Or.inl ⟨by omega, by omega⟩⟩ dX11_readsCompared_86
      refine x_aload_n hx hb hl 1 rfl dX11_readsCompared_58 rfl ?_
      refine x_iconst hx hb dX11_readsCompared_59 ?_
      refine x_aload_n hx hb hl 1 rfl dX11_readsCompared_60 rfl ?_
      refine x_get (j := 9) (v := .int (xJ (s2 268 9))) hx hb hown hT hE hW cls_X11 (Or.inl (by decide)) (so_268 h0 g _) (by decide) rfl wq1194 dX11_readsCompared_61 ?_
      refine x_rd hW (fun x40 ex40 rx40 => ?_)
      have bx40 : 0 ≤ x40 ∧ x40 ≤ s2 268 10 ∧ s2 268 10 ≤ 240 := by rw [ex40]; exact hp3.1.2.2.2.1
      have q41 : s2 268 9 = x40 := ex40.symm
      refine x_goi (x_runV (As := [.int (xJ 1), .int (xJ x40)]) hx hb hml hown hT hE hW hl.1 (Or.inl (by decide)) (so_268 h0 g _) rfl cf_X11_wrongAt wq1401 wq107 wq1399 (c_X11_wrongAt l D g T h0 s2 hW.2.1 1 (by decide) x40 rx40 hp3.1.1 hp3.1.2.1 hp3.1.2.2.1 hp3.1.2.2.2.1) ⟨rfl, rfl, ⟨by decide, by decide⟩, ⟨by decide, by decide⟩⟩ rfl rfl (Nat.le_of_ble_eq_true rfl) dX11_readsCompared_64) hW (fun x42 s43 H locs rx42 hp44 hW => ?_)
      obtain ⟨fs43, hp44⟩ := hp44
      have hF45 := hF4.call fs43 (fun k h => by omega)
      have ghp44 := hp44.2
      rw [eQ]
      exact x_zret hx hb hr hlk hW (by omega) ⟨hF45, ⟨hp44.1.1, hp44.1.2.1, hp44.1.2.2.1, hp44.1.2.2.2.1, (hp44.1.2.2.2.2.1.trans (hp3.1.2.2.2.2.1.trans k268_8)), (hp44.1.2.2.2.2.2.1.trans (hp3.1.2.2.2.2.2.1.trans k268_58)), (hp44.1.2.2.2.2.2.2.2.1.trans (hp3.1.2.2.2.2.2.2.1.trans k268_10)), (hp44.1.2.2.2.2.2.2.2.2.2.2.1.trans (hp3.1.2.2.2.2.2.2.2.1.trans k268_16)), (hp44.1.2.2.2.2.2.2.2.2.2.2.2.1.trans (hp3.1.2.2.2.2.2.2.2.2.1.trans k268_34)), (hp44.1.2.2.2.2.2.2.2.2.2.2.2.2.1.trans (hp3.1.2.2.2.2.2.2.2.2.2.1.trans k268_35)), (hp44.1.2.2.2.2.2.2.2.2.2.2.2.2.2.1.trans (hp3.1.2.2.2.2.2.2.2.2.2.2.1.trans k268_36)), (hp44.1.2.2.2.2.2.2.2.2.2.2.2.2.2.2.1.trans (hp3.1.2.2.2.2.2.2.2.2.2.2.2.1.trans k268_37)), trivial⟩, Or.inl ⟨by omega, by omega⟩⟩ dX11_readsCompared_67
    refine x_icmp_ne (tgt := 23) hx hb rx6 (by decide) dX11_readsCompared_15 (by decide) (fun c46 => ?_) (fun c46 => ?_)
    · skip
      refine x_aload_n hx hb hl 0 rfl dX11_readsCompared_23 rfl ?_
      refine x_goi (x_runV (As := []) hx hb hml hown hT hE hW hl.1 (Or.inl (by decide)) (so_268 h0 g _) rfl cf_X11_here wq1391 wq106 wq1389 (c_X11_here l D g T h0 s2 hW.2.1 hp3.1.1 hp3.1.2.1 hp3.1.2.2.1 hp3.1.2.2.2.1) ⟨rfl, rfl, ⟨by decide, by decide⟩, ⟨by decide, by decide⟩⟩ rfl rfl (Nat.le_of_ble_eq_true rfl) dX11_readsCompared_24) hW (fun x47 s48 H locs rx47 hp49 hW => ?_)
      obtain ⟨es48, hp49⟩ := hp49
      subst es48
      have ghp49 := hp49
      refine x_bipush hx hb dX11_readsCompared_27 (by decide) ?_
      refine x_icmp_ne (tgt := 37) hx hb rx47 (by decide) dX11_readsCompared_29 (by decide) (fun c50 => ?_) (fun c50 => ?_)
      · skip
        refine x_aload_n hx hb hl 0 rfl dX11_readsCompared_37 rfl ?_
        refine x_goi (x_runV (As := []) hx hb hml hown hT hE hW hl.1 (Or.inl (by decide)) (so_268 h0 g _) rfl cf_X11_here wq1391 wq106 wq1389 (c_X11_here l D g T h0 s2 hW.2.1 hp3.1.1 hp3.1.2.1 hp3.1.2.2.1 hp3.1.2.2.2.1) ⟨rfl, rfl, ⟨by decide, by decide⟩, ⟨by decide, by decide⟩⟩ rfl rfl (Nat.le_of_ble_eq_true rfl) dX11_readsCompared_38) hW (fun x51 s52 H locs rx51 hp53 hW => ?_)
        obtain ⟨es52, hp53⟩ := hp53
        subst es52
        have ghp53 := hp53
        refine x_bipush hx hb dX11_readsCompared_41 (by decide) ?_
        refine x_icmp_ne (tgt := 51) hx hb rx51 (by decide) dX11_readsCompared_43 (by decide) (fun c54 => ?_) (fun c54 => ?_)
        · skip
          refine x_iconst hx hb dX11_readsCompared_51 ?_
          exact J52 (-1) H locs ls (by decide) (by omega) hW (lv_sub hl [0] rfl)
        refine x_bipush hx hb dX11_readsCompared_46 (by decide) ?_
        refine lv_goto (tgt := 52) hx hb dX11_readsCompared_48 (by decide) ?_
        exact J52 9 H locs ls (by decide) (by omega) hW (lv_sub hl [0] rfl)
      refine x_bipush hx hb dX11_readsCompared_32 (by decide) ?_
      refine lv_goto (tgt := 52) hx hb dX11_readsCompared_34 (by decide) ?_
      exact J52 8 H locs ls (by decide) (by omega) hW (lv_sub hl [0] rfl)
    refine x_bipush hx hb dX11_readsCompared_18 (by decide) ?_
    refine lv_goto (tgt := 52) hx hb dX11_readsCompared_20 (by decide) ?_
    exact J52 7 H locs ls (by decide) (by omega) hW (lv_sub hl [0] rfl)
  refine x_iconst hx hb dX11_readsCompared_7 ?_
  rw [eQ]
  exact x_zret hx hb hr hlk hW (by omega) ⟨hF4, ⟨hp3.1.1, hp3.1.2.1, hp3.1.2.2.1, hp3.1.2.2.2.1, (hp3.1.2.2.2.2.1.trans k268_8), (hp3.1.2.2.2.2.2.1.trans k268_58), (hp3.1.2.2.2.2.2.2.1.trans k268_10), (hp3.1.2.2.2.2.2.2.2.1.trans k268_16), (hp3.1.2.2.2.2.2.2.2.2.1.trans k268_34), (hp3.1.2.2.2.2.2.2.2.2.2.1.trans k268_35), (hp3.1.2.2.2.2.2.2.2.2.2.2.1.trans k268_36), (hp3.1.2.2.2.2.2.2.2.2.2.2.2.1.trans k268_37), trivial⟩, Or.inl ⟨by omega, by omega⟩⟩ dX11_readsCompared_8

