set_option maxHeartbeats 4000000 in
set_option maxRecDepth 100000 in
theorem c_X11_endsPieceK (l : Launch) (D : va_G) (g : xG) (T : Nat × Nat × Nat) (h0 : Nat) (s0 : xS) (hσ : xRR s0) (f9 : Int → Int) (n9 : Int) (a9 : Int) (Z : Int × Int × Int × (Int → Int)) (hf : xm8 (s0 276) = f9 ∧ s0 268 10 = n9) (hz : zCQ f9 n9 a9 Z false s0) (hw0 : 0 < s0 268 15) (p0 : IMn s0) (p1 : IMk s0) (p2 : IMo s0) (p3 : IR s0) : Met l yX11_endsPiece (xws yX11_endsPiece cX11_endsPiece 1 none) { frames := 1, cells := 0, slots := 0, locals := 22 } (xP [.ref (h0 + 268)] D g T h0 s0) (xQv D g h0 (fun τ => xFr (fun k => k = 268 ∨ k = 277) s0 τ ∧ (((IMn τ) ∧ (IMk τ) ∧ (IMo τ) ∧ (IR τ) ∧ (τ 268 8 = s0 268 8) ∧ (τ 268 58 = s0 268 58) ∧ (τ 268 17 = s0 268 17) ∧ (τ 268 9 = s0 268 9) ∧ (τ 268 10 = s0 268 10) ∧ (τ 268 16 = s0 268 16) ∧ True) ∧ (zCQ f9 n9 a9 Z false τ ∧ ztW τ ≠ 10 ∧ 0 < τ 268 15)))) 0 0 (xA h0) := by
  refine x_met hσ (by decide) (Nat.le_of_ble_eq_true rfl) ?_
  intro p e s m args below meth c hx hb hr hml hown hT hlk hnm hE hW ls hl
  have hl : lv_has ls 1 [(0, .ref (h0 + 268))] := hl
  obtain ⟨Q, eQ⟩ : ∃ Q, Q = MQ below (xQv D g h0 (fun τ => xFr (fun k => k = 268 ∨ k = 277) s0 τ ∧ (((IMn τ) ∧ (IMk τ) ∧ (IMo τ) ∧ (IR τ) ∧ (τ 268 8 = s0 268 8) ∧ (τ 268 58 = s0 268 58) ∧ (τ 268 17 = s0 268 17) ∧ (τ 268 9 = s0 268 9) ∧ (τ 268 10 = s0 268 10) ∧ (τ 268 16 = s0 268 16) ∧ True) ∧ (zCQ f9 n9 a9 Z false τ ∧ ztW τ ≠ 10 ∧ 0 < τ 268 15)))) args s 0 0 (xA h0) := ⟨_, rfl⟩
  rw [← eQ]
  generalize hHe : ([] : List Loc) = locs at hW ⊢
  obtain ⟨H, eH⟩ : ∃ H, H = s.heap := ⟨_, rfl⟩
  rw [← eH] at hW ⊢
  have hF : xFr (fun k => k = 268 ∨ k = 277) s0 s0 := xFr.rf
  have k268_8 : s0 268 8 = s0 268 8 := rfl
  have k268_58 : s0 268 58 = s0 268 58 := rfl
  have k268_17 : s0 268 17 = s0 268 17 := rfl
  have k268_9 : s0 268 9 = s0 268 9 := rfl
  have k268_10 : s0 268 10 = s0 268 10 := rfl
  have k268_16 : s0 268 16 = s0 268 16 := rfl
  have k268_13 : s0 268 13 = s0 268 13 := rfl
  have k268_14 : s0 268 14 = s0 268 14 := rfl
  have k268_15 : s0 268 15 = s0 268 15 := rfl
  have hf2 := hf.2
  have L0 : ∀ (fu : Nat) (s_0 : xS) (H : Heap) (locs : List Loc) (ls : Array Slot), (xFr (fun k => k = 268 ∨ k = 277) s0 s_0) → (IMn s_0) → (IMk s_0) → (IMo s_0) → (IR s_0) → (s_0 268 8 = s0 268 8) → (s_0 268 58 = s0 268 58) → (s_0 268 17 = s0 268 17) → (s_0 268 9 = s0 268 9) → (s_0 268 10 = s0 268 10) → (s_0 268 16 = s0 268 16) → (zCQ f9 n9 a9 Z false s_0 ∧ 0 < s_0 268 15) → (s_0 268 15).toNat < fu → xW D g h0 s H locs s_0 → lv_has ls 1 [(0, .ref (h0 + 268))] → W p l e { frames := 1, cells := 0, slots := 0, locals := 22 } s m args below meth c H locs 0 0 Q (F0 m 0 ls []) := by
    intro fu
    induction fu with
    | zero => intro s_0 H locs ls hF_0 q0_0 q0_1 q0_2 q0_3 q0_4 q0_5 q0_6 q0_7 q0_8 q0_9 v0_0 hm; exact absurd hm (Nat.not_lt_zero _)
    | succ fu ih0 =>
      intro s_0 H locs ls hF_0 q0_0 q0_1 q0_2 q0_3 q0_4 q0_5 q0_6 q0_7 q0_8 q0_9 v0_0 hm hW hl
      have b0 := v0_0.1.b
      have o0 := v0_0.1.o
      have w0 := v0_0.2
      refine x_aload_n hx hb hl 0 rfl dX11_endsPiece_0 rfl ?_
      refine x_goi (x_runV (As := []) hx hb hml hown hT hE hW hl.1 (Or.inl (by decide)) (so_268 h0 g _) rfl cf_X11_waitTop wq1507 wq123 wq1505 (c_X11_waitTopK l D g T h0 s_0 hW.2.1 (v0_0.1.wt) q0_0 q0_1 q0_2 q0_3) ⟨rfl, rfl, ⟨by decide, by decide⟩, ⟨by decide, by decide⟩⟩ rfl rfl (Nat.le_of_ble_eq_true rfl) dX11_endsPiece_1) hW (fun x1 s2 H locs rx1 hp3 hW => ?_)
      obtain ⟨es2, hp3⟩ := hp3
      subst es2
      have ghp3 := hp3
      have H1 := ghp3
      refine x_bipush hx hb dX11_endsPiece_4 (by decide) ?_
      refine x_icmp_ne (tgt := 39) hx hb rx1 (by decide) dX11_endsPiece_6 (by decide) (fun c4 => ?_) (fun c4 => ?_)
      · skip
        rw [eQ]
        exact x_vret hx hb hr hlk hW ⟨hF_0, ⟨q0_0, q0_1, q0_2, q0_3, q0_4, q0_5, q0_6, q0_7, q0_8, q0_9, trivial⟩, ⟨v0_0.1, by omega, by omega⟩⟩ dX11_endsPiece_39
      refine x_aload_n hx hb hl 0 rfl dX11_endsPiece_9 rfl ?_
      refine x_bipush hx hb dX11_endsPiece_10 (by decide) ?_
      refine x_iconst hx hb dX11_endsPiece_12 ?_
      refine x_gov (x_runV (As := [.int (xJ 10), .int (xJ 0)]) hx hb hml hown hT hE hW hl.1 (Or.inl (by decide)) (so_268 h0 g _) rfl cf_X11_notes wq1493 wq121 wq1491 (c_X11_notesK l D g T h0 s_0 hW.2.1 10 (by decide) 0 (by decide) (by omega) (by omega) (by omega) q0_0 q0_1 q0_2 q0_3) ⟨rfl, rfl, ⟨by decide, by decide⟩, ⟨by decide, by decide⟩⟩ rfl rfl (Nat.le_of_ble_eq_true rfl) dX11_endsPiece_13) hW (fun s6 H locs hp7 hW => ?_)
      obtain ⟨fs6, hp7⟩ := hp7
      have hF8 := hF_0.call fs6 (fun k h => by omega)
      have ghp7 := hp7.2
      have H13 := ghp7
      have F13 := fs6
      refine x_aload_n hx hb hl 0 rfl dX11_endsPiece_16 rfl ?_
      refine x_aload_n hx hb hl 0 rfl dX11_endsPiece_17 rfl ?_
      refine x_get (j := 15) (v := .int (xJ (s6 268 15))) hx hb hown hT hE hW cls_X11 (Or.inl (by decide)) (so_268 h0 g _) (by decide) rfl wq1200 dX11_endsPiece_18 ?_
      refine x_rd hW (fun x9 ex9 rx9 => ?_)
      have fx9 : x9 = s_0 268 15 := ex9.trans hp7.1.2.2.2.2.2.2.2.2.2.2.1
      refine x_iconst hx hb dX11_endsPiece_21 ?_
      refine x_isub hx hb dX11_endsPiece_22 ?_
      refine x_put (j := 15) hx hb hown hT hE hW cls_X11 (by decide) (fun σ => so_268 h0 g σ) (by decide) (st_X11_15 h0 s6 268 (x9 - 1)) (ln_X11_15 h0 _ _) wq1200 rfl rfl rfl (by omega) dX11_endsPiece_23 (fun H locs s10 es10 hW => ?_)
      have q11 : IMn s10 := by rw [es10]; exact IMn_268 hp7.1.1 (by omega)
      have q12 : IMk s10 := by rw [es10]; exact IMk_268 hp7.1.2.1 (by omega)
      have q13 : IMo s10 := by rw [es10]; exact IMo_o (by unfold suIMo; omega) hp7.1.2.2.1
      have q14 : IR s10 := by rw [es10]; exact IR_268 hp7.1.2.2.2.1 (by omega)
      have q15 : s10 268 8 = s0 268 8 := (show s10 268 8 = s6 268 8 from by rw [es10, xU_j _ _ (by decide)]).trans (hp7.1.2.2.2.2.1.trans q0_4)
      have q16 : s10 268 58 = s0 268 58 := (show s10 268 58 = s6 268 58 from by rw [es10, xU_j _ _ (by decide)]).trans (hp7.1.2.2.2.2.2.1.trans q0_5)
      have q17 : s10 268 17 = s0 268 17 := (show s10 268 17 = s6 268 17 from by rw [es10, xU_j _ _ (by decide)]).trans (hp7.1.2.2.2.2.2.2.1.trans q0_6)
      have q18 : s10 268 9 = s0 268 9 := (show s10 268 9 = s6 268 9 from by rw [es10, xU_j _ _ (by decide)]).trans (hp7.1.2.2.2.2.2.2.2.1.trans q0_7)
      have q19 : s10 268 10 = s0 268 10 := (show s10 268 10 = s6 268 10 from by rw [es10, xU_j _ _ (by decide)]).trans (hp7.1.2.2.2.2.2.2.2.2.1.trans q0_8)
      have q20 : s10 268 13 = s_0 268 13 := (show s10 268 13 = s6 268 13 from by rw [es10, xU_j _ _ (by decide)]).trans hp7.1.2.2.2.2.2.2.2.2.2.1
      have q21 : s10 268 15 = (x9 - 1) := by rw [es10, xU_s]
      have q22 : s10 268 16 = s0 268 16 := (show s10 268 16 = s6 268 16 from by rw [es10, xU_j _ _ (by decide)]).trans (hp7.1.2.2.2.2.2.2.2.2.2.2.2.1.trans q0_9)
      have hF23 := hF8.put es10 (by omega)
      have E23 := es10
      refine x_aload_n hx hb hl 0 rfl dX11_endsPiece_26 rfl ?_
      refine x_aload_n hx hb hl 0 rfl dX11_endsPiece_27 rfl ?_
      refine x_get (j := 13) (v := .int (xJ (s10 268 13))) hx hb hown hT hE hW cls_X11 (Or.inl (by decide)) (so_268 h0 g _) (by decide) rfl wq1198 dX11_endsPiece_28 ?_
      refine x_rd hW (fun x24 ex24 rx24 => ?_)
      have fx24 : x24 = s_0 268 13 := ex24.trans q20
      refine x_iconst hx hb dX11_endsPiece_31 ?_
      refine x_isub hx hb dX11_endsPiece_32 ?_
      refine x_put (j := 13) hx hb hown hT hE hW cls_X11 (by decide) (fun σ => so_268 h0 g σ) (by decide) (st_X11_13 h0 s10 268 (x24 - 1)) (ln_X11_13 h0 _ _) wq1198 rfl rfl rfl (by omega) dX11_endsPiece_33 (fun H locs s25 es25 hW => ?_)
      have q26 : IMn s25 := by rw [es25]; exact IMn_268 q11 (by omega)
      have q27 : IMk s25 := by rw [es25]; exact IMk_268 q12 (by omega)
      have q28 : IMo s25 := by rw [es25]; exact IMo_o (by unfold suIMo; omega) q13
      have q29 : IR s25 := by rw [es25]; exact IR_268 q14 (by omega)
      have q30 : s25 268 8 = s0 268 8 := (show s25 268 8 = s10 268 8 from by rw [es25, xU_j _ _ (by decide)]).trans q15
      have q31 : s25 268 58 = s0 268 58 := (show s25 268 58 = s10 268 58 from by rw [es25, xU_j _ _ (by decide)]).trans q16
      have q32 : s25 268 17 = s0 268 17 := (show s25 268 17 = s10 268 17 from by rw [es25, xU_j _ _ (by decide)]).trans q17
      have q33 : s25 268 9 = s0 268 9 := (show s25 268 9 = s10 268 9 from by rw [es25, xU_j _ _ (by decide)]).trans q18
      have q34 : s25 268 10 = s0 268 10 := (show s25 268 10 = s10 268 10 from by rw [es25, xU_j _ _ (by decide)]).trans q19
      have q35 : s25 268 13 = (x24 - 1) := by rw [es25, xU_s]
      have q36 : s25 268 15 = (x9 - 1) := (show s25 268 15 = s10 268 15 from by rw [es25, xU_j _ _ (by decide)]).trans q21
      have q37 : s25 268 16 = s0 268 16 := (show s25 268 16 = s10 268 16 from by rw [es25, xU_j _ _ (by decide)]).trans q22
      have hF38 := hF23.put es25 (by omega)
      have E33 := es25
      refine lv_goto (tgt := 0) hx hb dX11_endsPiece_36 (by decide) ?_
      exact ih0 s25 H locs ls hF38 q26 q27 q28 q29 q30 q31 q32 q33 q34 q37 (v0_0.1.not (by omega) (by omega) (by rw [E33, xU_j _ _ (by decide), E23, xU_j _ _ (by decide)]; exact H13.2) (by rw [E33, xU_k _ _ _ (by omega), E23, xU_k _ _ _ (by omega), H13.1]; rfl) (by omega) (by omega) (by rw [E33, xU_k _ _ _ (by omega), E23, xU_k _ _ _ (by omega), F13 278 (by omega)])) (by omega) hW (lv_sub hl [0] rfl)
  exact L0 ((s0 268 15 : Int).toNat + 1) s0 H locs ls hF p0 p1 p2 p3 k268_8 k268_58 k268_17 k268_9 k268_10 k268_16 (⟨hz, hw0⟩) (Nat.lt_succ_self _) hW (lv_sub hl [0] rfl)
set_option maxHeartbeats 4000000 in
set_option maxRecDepth 100000 in
theorem c_X11_landsK (l : Launch) (D : va_G) (g : xG) (T : Nat × Nat × Nat) (h0 : Nat) (s0 : xS) (hσ : xRR s0) (x : Int) (rx : xR x) (f9 : Int → Int) (n9 : Int) (a9 : Int) (Z : Int × Int × Int × (Int → Int)) (hf : xm8 (s0 276) = f9 ∧ s0 268 10 = n9) (hz : zCQ f9 n9 a9 Z false s0) (hxz : (x = 0 ∨ (x = 1 ∧ zch f9 n9 (s0 268 9) ≠ 38)) ∧ ztW s0 ≠ 10 ∧ 10 ≤ ztW s0) (p0 : IMn s0) (p1 : IMk s0) (p2 : IMo s0) (p3 : IR s0) : Met l yX11_lands (xws yX11_lands cX11_lands 3 none) { frames := 1, cells := 0, slots := 0, locals := 20 } (xP [.ref (h0 + 268), .int (xJ x)] D g T h0 s0) (xQv D g h0 (fun τ => xFr (fun k => k = 268 ∨ k = 277) s0 τ ∧ (((IMn τ) ∧ (IMk τ) ∧ (IMo τ) ∧ (IR τ) ∧ (τ 268 8 = s0 268 8) ∧ (τ 268 58 = s0 268 58) ∧ (τ 268 17 = s0 268 17) ∧ (τ 268 9 = s0 268 9) ∧ (τ 268 10 = s0 268 10) ∧ (τ 268 13 = s0 268 13) ∧ (τ 268 14 = s0 268 14) ∧ (τ 268 16 = s0 268 16) ∧ True) ∧ (zCQ f9 n9 a9 Z false τ ∧ 12 ≤ ztW τ ∧ (x = 0 ∨ 13 ≤ ztW τ))))) 0 0 (xA h0) := by
  refine x_met hσ (by decide) (Nat.le_of_ble_eq_true rfl) ?_
  intro p e s m args below meth c hx hb hr hml hown hT hlk hnm hE hW ls hl
  have hl : lv_has ls 3 [(0, .ref (h0 + 268)), (1, .int (xJ x))] := hl
  obtain ⟨Q, eQ⟩ : ∃ Q, Q = MQ below (xQv D g h0 (fun τ => xFr (fun k => k = 268 ∨ k = 277) s0 τ ∧ (((IMn τ) ∧ (IMk τ) ∧ (IMo τ) ∧ (IR τ) ∧ (τ 268 8 = s0 268 8) ∧ (τ 268 58 = s0 268 58) ∧ (τ 268 17 = s0 268 17) ∧ (τ 268 9 = s0 268 9) ∧ (τ 268 10 = s0 268 10) ∧ (τ 268 13 = s0 268 13) ∧ (τ 268 14 = s0 268 14) ∧ (τ 268 16 = s0 268 16) ∧ True) ∧ (zCQ f9 n9 a9 Z false τ ∧ 12 ≤ ztW τ ∧ (x = 0 ∨ 13 ≤ ztW τ))))) args s 0 0 (xA h0) := ⟨_, rfl⟩
  rw [← eQ]
  generalize hHe : ([] : List Loc) = locs at hW ⊢
  obtain ⟨H, eH⟩ : ∃ H, H = s.heap := ⟨_, rfl⟩
  rw [← eH] at hW ⊢
  have hF : xFr (fun k => k = 268 ∨ k = 277) s0 s0 := xFr.rf
  have k268_8 : s0 268 8 = s0 268 8 := rfl
  have k268_58 : s0 268 58 = s0 268 58 := rfl
  have k268_17 : s0 268 17 = s0 268 17 := rfl
  have k268_9 : s0 268 9 = s0 268 9 := rfl
  have k268_10 : s0 268 10 = s0 268 10 := rfl
  have k268_13 : s0 268 13 = s0 268 13 := rfl
  have k268_14 : s0 268 14 = s0 268 14 := rfl
  have k268_16 : s0 268 16 = s0 268 16 := rfl
  have k268_15 : s0 268 15 = s0 268 15 := rfl
  have hf2 := hf.2
  have L0 : ∀ (fu : Nat) (s_0 : xS) (H : Heap) (locs : List Loc) (ls : Array Slot), (xFr (fun k => k = 268 ∨ k = 277) s0 s_0) → (IMn s_0) → (IMk s_0) → (IMo s_0) → (IR s_0) → (s_0 268 8 = s0 268 8) → (s_0 268 58 = s0 268 58) → (s_0 268 17 = s0 268 17) → (s_0 268 9 = s0 268 9) → (s_0 268 10 = s0 268 10) → (s_0 268 13 = s0 268 13) → (s_0 268 14 = s0 268 14) → (s_0 268 16 = s0 268 16) → (zCQ f9 n9 a9 Z false s_0) → (ztW s_0 ≠ 10 ∧ 10 ≤ ztW s_0) → (s_0 268 15).toNat < fu → xW D g h0 s H locs s_0 → lv_has ls 3 [(0, .ref (h0 + 268)), (1, .int (xJ x))] → W p l e { frames := 1, cells := 0, slots := 0, locals := 20 } s m args below meth c H locs 0 0 Q (F0 m 0 ls []) := by
    intro fu
    induction fu with
    | zero => intro s_0 H locs ls hF_0 q0_0 q0_1 q0_2 q0_3 q0_4 q0_5 q0_6 q0_7 q0_8 q0_9 q0_10 q0_11 v0_0 v0_1 hm; exact absurd hm (Nat.not_lt_zero _)
    | succ fu ih0 =>
      intro s_0 H locs ls hF_0 q0_0 q0_1 q0_2 q0_3 q0_4 q0_5 q0_6 q0_7 q0_8 q0_9 q0_10 q0_11 v0_0 v0_1 hm hW hl
      have b0 := v0_0.b
      have n0 := v0_0.ne2 (by omega)
      have t0 := v0_0.top n0
      refine x_aload_n hx hb hl 0 rfl dX11_lands_0 rfl ?_
      refine x_goi (x_runV (As := []) hx hb hml hown hT hE hW hl.1 (Or.inl (by decide)) (so_268 h0 g _) rfl cf_X11_waitTop wq1507 wq123 wq1505 (c_X11_waitTopK l D g T h0 s_0 hW.2.1 (v0_0.wt) q0_0 q0_1 q0_2 q0_3) ⟨rfl, rfl, ⟨by decide, by decide⟩, ⟨by decide, by decide⟩⟩ rfl rfl (Nat.le_of_ble_eq_true rfl) dX11_lands_1) hW (fun x1 s2 H locs rx1 hp3 hW => ?_)
      obtain ⟨es2, hp3⟩ := hp3
      subst es2
      have ghp3 := hp3
      have H1 := ghp3
      refine x_bipush hx hb dX11_lands_4 (by decide) ?_
      refine x_icmp_eq (tgt := 22) hx hb rx1 (by decide) dX11_lands_6 (by decide) (fun c4 => ?_) (fun c4 => ?_)
      · skip
        refine x_aload_n hx hb hl 0 rfl dX11_lands_22 rfl ?_
        refine x_get (j := 19) (v := .ref (h0 + 278)) hx hb hown hT hE hW cls_X11 (Or.inl (by decide)) (so_268 h0 g _) (by decide) rfl wq1204 dX11_lands_23 ?_
        refine x_aload_n hx hb hl 0 rfl dX11_lands_26 rfl ?_
        refine x_get (j := 15) (v := .int (xJ (s_0 268 15))) hx hb hown hT hE hW cls_X11 (Or.inl (by decide)) (so_268 h0 g _) (by decide) rfl wq1200 dX11_lands_27 ?_
        refine x_rd hW (fun x5 ex5 rx5 => ?_)
        have q6 : s_0 268 15 = x5 := ex5.symm
        refine x_iconst hx hb dX11_lands_30 ?_
        refine x_isub hx hb dX11_lands_31 ?_
        refine x_iald hx hb hE hW (Or.inl (by decide)) (sa_278 h0 g _) (by omega) (by decide) dX11_lands_32 ?_
        refine x_rd hW (fun x7 ex7 rx7 => ?_)
        have V32 : x7 = s_0 278 (s_0 268 15 - 1) := by rw [ex7, show (x5 - 1) = s_0 268 15 - 1 from by omega]
        refine lv_ldc (v := xJ 1048576) hx hb hown (hT _ wq1482) dX11_lands_33 ?_
        refine x_irem hx hb rx7 (by decide) (by omega) (by decide) dX11_lands_35 ?_
        refine x_nm (fun x8 ex8 => ?_)
        refine lv_istore_n (lv' := [(2, .int (xJ x8)), (0, .ref (h0 + 268)), (1, .int (xJ x))]) hx hb dX11_lands_36 rfl hl (by decide) rfl (fun ls hl => ?_)
        have V36 : x8 = s_0 278 (s_0 268 15 - 1) % 1048576 := by omega
        refine x_aload_n hx hb hl 1 rfl dX11_lands_37 rfl ?_
        refine x_get (j := 18) (v := .ref (h0 + 277)) hx hb hown hT hE hW cls_X11 (Or.inl (by decide)) (so_268 h0 g _) (by decide) rfl wq1203 dX11_lands_38 ?_
        refine x_iload_n hx hb hl 0 rfl dX11_lands_41 rfl ?_
        refine lv_ldc (v := xJ 1048576) hx hb hown (hT _ wq1482) dX11_lands_42 ?_
        refine x_aload_n hx hb hl 1 rfl dX11_lands_44 rfl ?_
        refine x_get (j := 18) (v := .ref (h0 + 277)) hx hb hown hT hE hW cls_X11 (Or.inl (by decide)) (so_268 h0 g _) (by decide) rfl wq1203 dX11_lands_45 ?_
        refine x_iload_n hx hb hl 0 rfl dX11_lands_48 rfl ?_
        refine x_iald hx hb hE hW (Or.inl (by decide)) (sa_277 h0 g _) (by omega) (by decide) dX11_lands_49 ?_
        refine x_rd hW (fun x9 ex9 rx9 => ?_)
        have V49 : x9 = s_0 277 x8 := by rw [ex9]
        have W49 : s_0 277 x8 / 1048576 = s_0 278 (s_0 268 15 - 1) / 1048576 := by rw [V36]; omega
        refine lv_ldc (v := xJ 1048576) hx hb hown (hT _ wq1482) dX11_lands_50 ?_
        refine x_idiv hx hb rx9 (by decide) (by omega) (by decide) dX11_lands_52 ?_
        refine x_imul hx hb dX11_lands_53 ?_
        refine x_aload_n hx hb hl 1 rfl dX11_lands_54 rfl ?_
        refine x_get (j := 14) (v := .int (xJ (s_0 268 14))) hx hb hown hT hE hW cls_X11 (Or.inl (by decide)) (so_268 h0 g _) (by decide) rfl wq1199 dX11_lands_55 ?_
        refine x_rd hW (fun x10 ex10 rx10 => ?_)
        have fx10 : x10 = s0 268 14 := ex10.trans q0_10
        refine x_iadd hx hb dX11_lands_58 ?_
        refine x_iast hx hb hE hW (by decide) (fun σ => sa_277 h0 g σ) (by omega) (by decide) (by omega) dX11_lands_59 (fun H locs s11 es11 hW => ?_)
        have q12 : IMn s11 := by rw [es11]; exact IMn_o (by unfold suIMn; omega) q0_0
        have q13 : IMk s11 := by rw [es11]; exact IMk_o (by unfold suIMk; omega) q0_1
        have q14 : IMo s11 := by rw [es11]; exact IMo_o (by unfold suIMo; omega) q0_2
        have q15 : IR s11 := by rw [es11]; exact IR_o (by unfold suIR; omega) q0_3
        have q16 : s11 268 8 = s0 268 8 := (show s11 268 8 = s_0 268 8 from by rw [es11, xU_k _ _ _ (by omega)]).trans q0_4
        have q17 : s11 268 58 = s0 268 58 := (show s11 268 58 = s_0 268 58 from by rw [es11, xU_k _ _ _ (by omega)]).trans q0_5
        have q18 : s11 268 17 = s0 268 17 := (show s11 268 17 = s_0 268 17 from by rw [es11, xU_k _ _ _ (by omega)]).trans q0_6
        have q19 : s11 268 9 = s0 268 9 := (show s11 268 9 = s_0 268 9 from by rw [es11, xU_k _ _ _ (by omega)]).trans q0_7
        have q20 : s11 268 10 = s0 268 10 := (show s11 268 10 = s_0 268 10 from by rw [es11, xU_k _ _ _ (by omega)]).trans q0_8
        have q21 : s11 268 13 = s0 268 13 := (show s11 268 13 = s_0 268 13 from by rw [es11, xU_k _ _ _ (by omega)]).trans q0_9
        have q22 : s11 268 14 = s0 268 14 := (show s11 268 14 = s_0 268 14 from by rw [es11, xU_k _ _ _ (by omega)]).trans q0_10
        have q23 : s11 268 16 = s0 268 16 := (show s11 268 16 = s_0 268 16 from by rw [es11, xU_k _ _ _ (by omega)]).trans q0_11
        have q24 : s11 268 15 = x5 := (show s11 268 15 = s_0 268 15 from by rw [es11, xU_k _ _ _ (by omega)]).trans q6
        have hF25 := hF_0.put es11 (by omega)
        have E59 := es11
        refine x_aload_n hx hb hl 1 rfl dX11_lands_60 rfl ?_
        refine x_aload_n hx hb hl 1 rfl dX11_lands_61 rfl ?_
        refine x_get (j := 15) (v := .int (xJ (s11 268 15))) hx hb hown hT hE hW cls_X11 (Or.inl (by decide)) (so_268 h0 g _) (by decide) rfl wq1200 dX11_lands_62 ?_
        refine x_rd hW (fun x26 ex26 rx26 => ?_)
        have fx26 : x26 = x5 := ex26.trans q24
        refine x_iconst hx hb dX11_lands_65 ?_
        refine x_isub hx hb dX11_lands_66 ?_
        refine x_put (j := 15) hx hb hown hT hE hW cls_X11 (by decide) (fun σ => so_268 h0 g σ) (by decide) (st_X11_15 h0 s11 268 (x26 - 1)) (ln_X11_15 h0 _ _) wq1200 rfl rfl rfl (by omega) dX11_lands_67 (fun H locs s27 es27 hW => ?_)
        have q28 : IMn s27 := by rw [es27]; exact IMn_268 q12 (by omega)
        have q29 : IMk s27 := by rw [es27]; exact IMk_268 q13 (by omega)
        have q30 : IMo s27 := by rw [es27]; exact IMo_o (by unfold suIMo; omega) q14
        have q31 : IR s27 := by rw [es27]; exact IR_268 q15 (by omega)
        have q32 : s27 268 8 = s0 268 8 := (show s27 268 8 = s11 268 8 from by rw [es27, xU_j _ _ (by decide)]).trans q16
        have q33 : s27 268 58 = s0 268 58 := (show s27 268 58 = s11 268 58 from by rw [es27, xU_j _ _ (by decide)]).trans q17
        have q34 : s27 268 17 = s0 268 17 := (show s27 268 17 = s11 268 17 from by rw [es27, xU_j _ _ (by decide)]).trans q18
        have q35 : s27 268 9 = s0 268 9 := (show s27 268 9 = s11 268 9 from by rw [es27, xU_j _ _ (by decide)]).trans q19
        have q36 : s27 268 10 = s0 268 10 := (show s27 268 10 = s11 268 10 from by rw [es27, xU_j _ _ (by decide)]).trans q20
        have q37 : s27 268 13 = s0 268 13 := (show s27 268 13 = s11 268 13 from by rw [es27, xU_j _ _ (by decide)]).trans q21
        have q38 : s27 268 14 = s0 268 14 := (show s27 268 14 = s11 268 14 from by rw [es27, xU_j _ _ (by decide)]).trans q22
        have q39 : s27 268 16 = s0 268 16 := (show s27 268 16 = s11 268 16 from by rw [es27, xU_j _ _ (by decide)]).trans q23
        have q40 : s27 268 15 = (x26 - 1) := by rw [es27, xU_s]
        have hF41 := hF25.put es27 (by omega)
        have E67 := es27
        have X67 := v0_0.land (τ := s27) (k := x8) (v := 1048576 * (s_0 277 x8 / 1048576) + s_0 268 14) (by rw [show s_0 268 9 = s0 268 9 from by omega]; omega) V36 rfl (by omega) (by omega) (by rw [E67, xU_k _ _ _ (by omega), E59, xU_xud, ← V49]; congr 1; omega) (by omega) (by omega) (by rw [E67, xU_k _ _ _ (by omega), E59, xU_k _ _ _ (by omega)])
        refine lv_goto (tgt := 0) hx hb dX11_lands_70 (by decide) ?_
        exact ih0 s27 H locs ls hF41 q28 q29 q30 q31 q32 q33 q34 q35 q36 q37 q38 q39 (X67.1) (by have y := X67.2; omega) (by omega) hW (lv_sub hl [1, 2] rfl)
      refine x_iload_n hx hb hl 1 rfl dX11_lands_9 rfl ?_
      refine x_if_eq (tgt := 73) hx hb rx dX11_lands_10 (by decide) (fun c42 => ?_) (fun c42 => ?_)
      · skip
        rw [eQ]
        exact x_vret hx hb hr hlk hW ⟨hF_0, ⟨q0_0, q0_1, q0_2, q0_3, q0_4, q0_5, q0_6, q0_7, q0_8, q0_9, q0_10, q0_11, trivial⟩, ⟨v0_0, by omega, by omega⟩⟩ dX11_lands_73
      refine x_aload_n hx hb hl 0 rfl dX11_lands_13 rfl ?_
      refine x_goi (x_runV (As := []) hx hb hml hown hT hE hW hl.1 (Or.inl (by decide)) (so_268 h0 g _) rfl cf_X11_waitTop wq1507 wq123 wq1505 (c_X11_waitTopK l D g T h0 s_0 hW.2.1 (v0_0.wt) q0_0 q0_1 q0_2 q0_3) ⟨rfl, rfl, ⟨by decide, by decide⟩, ⟨by decide, by decide⟩⟩ rfl rfl (Nat.le_of_ble_eq_true rfl) dX11_lands_14) hW (fun x43 s44 H locs rx43 hp45 hW => ?_)
      obtain ⟨es44, hp45⟩ := hp45
      subst es44
      have ghp45 := hp45
      have H14 := ghp45
      refine x_bipush hx hb dX11_lands_17 (by decide) ?_
      refine x_icmp_ne (tgt := 73) hx hb rx43 (by decide) dX11_lands_19 (by decide) (fun c46 => ?_) (fun c46 => ?_)
      · skip
        rw [eQ]
        exact x_vret hx hb hr hlk hW ⟨hF_0, ⟨q0_0, q0_1, q0_2, q0_3, q0_4, q0_5, q0_6, q0_7, q0_8, q0_9, q0_10, q0_11, trivial⟩, ⟨v0_0, by omega, by omega⟩⟩ dX11_lands_73
      refine x_aload_n hx hb hl 0 rfl dX11_lands_22 rfl ?_
      refine x_get (j := 19) (v := .ref (h0 + 278)) hx hb hown hT hE hW cls_X11 (Or.inl (by decide)) (so_268 h0 g _) (by decide) rfl wq1204 dX11_lands_23 ?_
      refine x_aload_n hx hb hl 0 rfl dX11_lands_26 rfl ?_
      refine x_get (j := 15) (v := .int (xJ (s_0 268 15))) hx hb hown hT hE hW cls_X11 (Or.inl (by decide)) (so_268 h0 g _) (by decide) rfl wq1200 dX11_lands_27 ?_
      refine x_rd hW (fun x47 ex47 rx47 => ?_)
      have q48 : s_0 268 15 = x47 := ex47.symm
      refine x_iconst hx hb dX11_lands_30 ?_
      refine x_isub hx hb dX11_lands_31 ?_
      refine x_iald hx hb hE hW (Or.inl (by decide)) (sa_278 h0 g _) (by omega) (by decide) dX11_lands_32 ?_
      refine x_rd hW (fun x49 ex49 rx49 => ?_)
      have V32 : x49 = s_0 278 (s_0 268 15 - 1) := by rw [ex49, show (x47 - 1) = s_0 268 15 - 1 from by omega]
      refine lv_ldc (v := xJ 1048576) hx hb hown (hT _ wq1482) dX11_lands_33 ?_
      refine x_irem hx hb rx49 (by decide) (by omega) (by decide) dX11_lands_35 ?_
      refine x_nm (fun x50 ex50 => ?_)
      refine lv_istore_n (lv' := [(2, .int (xJ x50)), (0, .ref (h0 + 268)), (1, .int (xJ x))]) hx hb dX11_lands_36 rfl hl (by decide) rfl (fun ls hl => ?_)
      have V36 : x50 = s_0 278 (s_0 268 15 - 1) % 1048576 := by omega
      refine x_aload_n hx hb hl 1 rfl dX11_lands_37 rfl ?_
      refine x_get (j := 18) (v := .ref (h0 + 277)) hx hb hown hT hE hW cls_X11 (Or.inl (by decide)) (so_268 h0 g _) (by decide) rfl wq1203 dX11_lands_38 ?_
      refine x_iload_n hx hb hl 0 rfl dX11_lands_41 rfl ?_
      refine lv_ldc (v := xJ 1048576) hx hb hown (hT _ wq1482) dX11_lands_42 ?_
      refine x_aload_n hx hb hl 1 rfl dX11_lands_44 rfl ?_
      refine x_get (j := 18) (v := .ref (h0 + 277)) hx hb hown hT hE hW cls_X11 (Or.inl (by decide)) (so_268 h0 g _) (by decide) rfl wq1203 dX11_lands_45 ?_
      refine x_iload_n hx hb hl 0 rfl dX11_lands_48 rfl ?_
      refine x_iald hx hb hE hW (Or.inl (by decide)) (sa_277 h0 g _) (by omega) (by decide) dX11_lands_49 ?_
      refine x_rd hW (fun x51 ex51 rx51 => ?_)
      have V49 : x51 = s_0 277 x50 := by rw [ex51]
      have W49 : s_0 277 x50 / 1048576 = s_0 278 (s_0 268 15 - 1) / 1048576 := by rw [V36]; omega
      refine lv_ldc (v := xJ 1048576) hx hb hown (hT _ wq1482) dX11_lands_50 ?_
      refine x_idiv hx hb rx51 (by decide) (by omega) (by decide) dX11_lands_52 ?_
      refine x_imul hx hb dX11_lands_53 ?_
      refine x_aload_n hx hb hl 1 rfl dX11_lands_54 rfl ?_
      refine x_get (j := 14) (v := .int (xJ (s_0 268 14))) hx hb hown hT hE hW cls_X11 (Or.inl (by decide)) (so_268 h0 g _) (by decide) rfl wq1199 dX11_lands_55 ?_
      refine x_rd hW (fun x52 ex52 rx52 => ?_)
      have fx52 : x52 = s0 268 14 := ex52.trans q0_10
      refine x_iadd hx hb dX11_lands_58 ?_
      refine x_iast hx hb hE hW (by decide) (fun σ => sa_277 h0 g σ) (by omega) (by decide) (by omega) dX11_lands_59 (fun H locs s53 es53 hW => ?_)
      have q54 : IMn s53 := by rw [es53]; exact IMn_o (by unfold suIMn; omega) q0_0
      have q55 : IMk s53 := by rw [es53]; exact IMk_o (by unfold suIMk; omega) q0_1
      have q56 : IMo s53 := by rw [es53]; exact IMo_o (by unfold suIMo; omega) q0_2
      have q57 : IR s53 := by rw [es53]; exact IR_o (by unfold suIR; omega) q0_3
      have q58 : s53 268 8 = s0 268 8 := (show s53 268 8 = s_0 268 8 from by rw [es53, xU_k _ _ _ (by omega)]).trans q0_4
      have q59 : s53 268 58 = s0 268 58 := (show s53 268 58 = s_0 268 58 from by rw [es53, xU_k _ _ _ (by omega)]).trans q0_5
      have q60 : s53 268 17 = s0 268 17 := (show s53 268 17 = s_0 268 17 from by rw [es53, xU_k _ _ _ (by omega)]).trans q0_6
      have q61 : s53 268 9 = s0 268 9 := (show s53 268 9 = s_0 268 9 from by rw [es53, xU_k _ _ _ (by omega)]).trans q0_7
      have q62 : s53 268 10 = s0 268 10 := (show s53 268 10 = s_0 268 10 from by rw [es53, xU_k _ _ _ (by omega)]).trans q0_8
      have q63 : s53 268 13 = s0 268 13 := (show s53 268 13 = s_0 268 13 from by rw [es53, xU_k _ _ _ (by omega)]).trans q0_9
      have q64 : s53 268 14 = s0 268 14 := (show s53 268 14 = s_0 268 14 from by rw [es53, xU_k _ _ _ (by omega)]).trans q0_10
      have q65 : s53 268 16 = s0 268 16 := (show s53 268 16 = s_0 268 16 from by rw [es53, xU_k _ _ _ (by omega)]).trans q0_11
      have q66 : s53 268 15 = x47 := (show s53 268 15 = s_0 268 15 from by rw [es53, xU_k _ _ _ (by omega)]).trans q48
      have hF67 := hF_0.put es53 (by omega)
      have E59 := es53
      refine x_aload_n hx hb hl 1 rfl dX11_lands_60 rfl ?_
      refine x_aload_n hx hb hl 1 rfl dX11_lands_61 rfl ?_
      refine x_get (j := 15) (v := .int (xJ (s53 268 15))) hx hb hown hT hE hW cls_X11 (Or.inl (by decide)) (so_268 h0 g _) (by decide) rfl wq1200 dX11_lands_62 ?_
      refine x_rd hW (fun x68 ex68 rx68 => ?_)
      have fx68 : x68 = x47 := ex68.trans q66
      refine x_iconst hx hb dX11_lands_65 ?_
      refine x_isub hx hb dX11_lands_66 ?_
      refine x_put (j := 15) hx hb hown hT hE hW cls_X11 (by decide) (fun σ => so_268 h0 g σ) (by decide) (st_X11_15 h0 s53 268 (x68 - 1)) (ln_X11_15 h0 _ _) wq1200 rfl rfl rfl (by omega) dX11_lands_67 (fun H locs s69 es69 hW => ?_)
      have q70 : IMn s69 := by rw [es69]; exact IMn_268 q54 (by omega)
      have q71 : IMk s69 := by rw [es69]; exact IMk_268 q55 (by omega)
      have q72 : IMo s69 := by rw [es69]; exact IMo_o (by unfold suIMo; omega) q56
      have q73 : IR s69 := by rw [es69]; exact IR_268 q57 (by omega)
      have q74 : s69 268 8 = s0 268 8 := (show s69 268 8 = s53 268 8 from by rw [es69, xU_j _ _ (by decide)]).trans q58
      have q75 : s69 268 58 = s0 268 58 := (show s69 268 58 = s53 268 58 from by rw [es69, xU_j _ _ (by decide)]).trans q59
      have q76 : s69 268 17 = s0 268 17 := (show s69 268 17 = s53 268 17 from by rw [es69, xU_j _ _ (by decide)]).trans q60
      have q77 : s69 268 9 = s0 268 9 := (show s69 268 9 = s53 268 9 from by rw [es69, xU_j _ _ (by decide)]).trans q61
      have q78 : s69 268 10 = s0 268 10 := (show s69 268 10 = s53 268 10 from by rw [es69, xU_j _ _ (by decide)]).trans q62
      have q79 : s69 268 13 = s0 268 13 := (show s69 268 13 = s53 268 13 from by rw [es69, xU_j _ _ (by decide)]).trans q63
      have q80 : s69 268 14 = s0 268 14 := (show s69 268 14 = s53 268 14 from by rw [es69, xU_j _ _ (by decide)]).trans q64
      have q81 : s69 268 16 = s0 268 16 := (show s69 268 16 = s53 268 16 from by rw [es69, xU_j _ _ (by decide)]).trans q65
      have q82 : s69 268 15 = (x68 - 1) := by rw [es69, xU_s]
      have hF83 := hF67.put es69 (by omega)
      have E67 := es69
      have X67 := v0_0.land (τ := s69) (k := x50) (v := 1048576 * (s_0 277 x50 / 1048576) + s_0 268 14) (by rw [show s_0 268 9 = s0 268 9 from by omega]; omega) V36 rfl (by omega) (by omega) (by rw [E67, xU_k _ _ _ (by omega), E59, xU_xud, ← V49]; congr 1; omega) (by omega) (by omega) (by rw [E67, xU_k _ _ _ (by omega), E59, xU_k _ _ _ (by omega)])
      refine lv_goto (tgt := 0) hx hb dX11_lands_70 (by decide) ?_
      exact ih0 s69 H locs ls hF83 q70 q71 q72 q73 q74 q75 q76 q77 q78 q79 q80 q81 (X67.1) (by have y := X67.2; omega) (by omega) hW (lv_sub hl [1, 2] rfl)
  exact L0 ((s0 268 15 : Int).toNat + 1) s0 H locs ls hF p0 p1 p2 p3 k268_8 k268_58 k268_17 k268_9 k268_10 k268_13 k268_14 k268_16 (hz) (hxz.2) (Nat.lt_succ_self _) hW (lv_sub hl [0, 1] rfl)
set_option maxHeartbeats 4000000 in
set_option maxRecDepth 100000 in
theorem c_X11_jumpsK (l : Launch) (D : va_G) (g : xG) (T : Nat × Nat × Nat) (h0 : Nat) (s0 : xS) (hσ : xRR s0) (o : Int) (ro : xR o) (f9 : Int → Int) (n9 : Int) (a9 : Int) (Z : Int × Int × Int × (Int → Int)) (hf : xm8 (s0 276) = f9 ∧ s0 268 10 = n9) (hz : zCQ f9 n9 a9 Z false s0) (ho : (o = 11 ∧ zch f9 n9 (s0 268 9) = 38 ∧ 12 ≤ ztW s0) ∨ (o = 12 ∧ zch f9 n9 (s0 268 9) = 124 ∧ 13 ≤ ztW s0)) (p0 : IMn s0) (p1 : IMk s0) (p2 : IMo s0) (p3 : IR s0) : Met l yX11_jumps (xws yX11_jumps cX11_jumps 2 none) { frames := 1, cells := 0, slots := 0, locals := 22 } (xP [.ref (h0 + 268), .int (xJ o)] D g T h0 s0) (xQv D g h0 (fun τ => xFr (fun k => k = 268 ∨ k = 277 ∨ k = 278) s0 τ ∧ (((IMn τ) ∧ (IMk τ) ∧ (IMo τ) ∧ (IR τ) ∧ (τ 268 8 = s0 268 8) ∧ (τ 268 58 = s0 268 58) ∧ (τ 268 17 = s0 268 17) ∧ (τ 268 10 = s0 268 10) ∧ (τ 268 16 = s0 268 16) ∧ True) ∧ (zCQ f9 n9 a9 Z true τ ∧ τ 268 9 = s0 268 9 + 1)))) 0 0 (xA h0) := by
  refine x_met hσ (by decide) (Nat.le_of_ble_eq_true rfl) ?_
  intro p e s m args below meth c hx hb hr hml hown hT hlk hnm hE hW ls hl
  have hl : lv_has ls 2 [(0, .ref (h0 + 268)), (1, .int (xJ o))] := hl
  obtain ⟨Q, eQ⟩ : ∃ Q, Q = MQ below (xQv D g h0 (fun τ => xFr (fun k => k = 268 ∨ k = 277 ∨ k = 278) s0 τ ∧ (((IMn τ) ∧ (IMk τ) ∧ (IMo τ) ∧ (IR τ) ∧ (τ 268 8 = s0 268 8) ∧ (τ 268 58 = s0 268 58) ∧ (τ 268 17 = s0 268 17) ∧ (τ 268 10 = s0 268 10) ∧ (τ 268 16 = s0 268 16) ∧ True) ∧ (zCQ f9 n9 a9 Z true τ ∧ τ 268 9 = s0 268 9 + 1)))) args s 0 0 (xA h0) := ⟨_, rfl⟩
  rw [← eQ]
  generalize hHe : ([] : List Loc) = locs at hW ⊢
  obtain ⟨H, eH⟩ : ∃ H, H = s.heap := ⟨_, rfl⟩
  rw [← eH] at hW ⊢
  have hF : xFr (fun k => k = 268 ∨ k = 277 ∨ k = 278) s0 s0 := xFr.rf
  have k268_8 : s0 268 8 = s0 268 8 := rfl
  have k268_58 : s0 268 58 = s0 268 58 := rfl
  have k268_17 : s0 268 17 = s0 268 17 := rfl
  have k268_10 : s0 268 10 = s0 268 10 := rfl
  have k268_16 : s0 268 16 = s0 268 16 := rfl
  have k268_9 : s0 268 9 = s0 268 9 := rfl
  have k268_13 : s0 268 13 = s0 268 13 := rfl
  have k268_14 : s0 268 14 = s0 268 14 := rfl
  have k268_15 : s0 268 15 = s0 268 15 := rfl
  have hf2 := hf.2
  have b0 := hz.b
  have o0 := hz.o
  have l0 := zch_lt (f := f9) (n := n9) (p := s0 268 9) (by omega)
  refine x_aload_n hx hb hl 0 rfl dX11_jumps_0 rfl ?_
  refine x_get (j := 19) (v := .ref (h0 + 278)) hx hb hown hT hE hW cls_X11 (Or.inl (by decide)) (so_268 h0 g _) (by decide) rfl wq1204 dX11_jumps_1 ?_
  refine x_aload_n hx hb hl 0 rfl dX11_jumps_4 rfl ?_
  refine x_get (j := 15) (v := .int (xJ (s0 268 15))) hx hb hown hT hE hW cls_X11 (Or.inl (by decide)) (so_268 h0 g _) (by decide) rfl wq1200 dX11_jumps_5 ?_
  refine x_rd hW (fun x1 ex1 rx1 => ?_)
  have fx1 : x1 = s0 268 15 := ex1.trans k268_15
  refine lv_ldc (v := xJ 1048576) hx hb hown (hT _ wq1482) dX11_jumps_8 ?_
  refine x_iload_n hx hb hl 1 rfl dX11_jumps_10 rfl ?_
  refine x_imul hx hb dX11_jumps_11 ?_
  refine x_aload_n hx hb hl 0 rfl dX11_jumps_12 rfl ?_
  refine x_get (j := 14) (v := .int (xJ (s0 268 14))) hx hb hown hT hE hW cls_X11 (Or.inl (by decide)) (so_268 h0 g _) (by decide) rfl wq1199 dX11_jumps_13 ?_
  refine x_rd hW (fun x2 ex2 rx2 => ?_)
  have fx2 : x2 = s0 268 14 := ex2.trans k268_14
  refine x_iadd hx hb dX11_jumps_16 ?_
  refine x_iast hx hb hE hW (by decide) (fun σ => sa_278 h0 g σ) (by omega) (by decide) (by omega) dX11_jumps_17 (fun H locs s3 es3 hW => ?_)
  have q4 : IMn s3 := by rw [es3]; exact IMn_o (by unfold suIMn; omega) p0
  have q5 : IMk s3 := by rw [es3]; exact IMk_o (by unfold suIMk; omega) p1
  have q6 : IMo s3 := by rw [es3]; exact IMo_o (by unfold suIMo; omega) p2
  have q7 : IR s3 := by rw [es3]; exact IR_o (by unfold suIR; omega) p3
  have q8 : s3 268 8 = s0 268 8 := (show s3 268 8 = s0 268 8 from by rw [es3, xU_k _ _ _ (by omega)]).trans k268_8
  have q9 : s3 268 58 = s0 268 58 := (show s3 268 58 = s0 268 58 from by rw [es3, xU_k _ _ _ (by omega)]).trans k268_58
  have q10 : s3 268 17 = s0 268 17 := (show s3 268 17 = s0 268 17 from by rw [es3, xU_k _ _ _ (by omega)]).trans k268_17
  have q11 : s3 268 10 = s0 268 10 := (show s3 268 10 = s0 268 10 from by rw [es3, xU_k _ _ _ (by omega)]).trans k268_10
  have q12 : s3 268 16 = s0 268 16 := (show s3 268 16 = s0 268 16 from by rw [es3, xU_k _ _ _ (by omega)]).trans k268_16
  have q13 : s3 268 9 = s0 268 9 := (show s3 268 9 = s0 268 9 from by rw [es3, xU_k _ _ _ (by omega)]).trans k268_9
  have q14 : s3 268 13 = s0 268 13 := (show s3 268 13 = s0 268 13 from by rw [es3, xU_k _ _ _ (by omega)]).trans k268_13
  have q15 : s3 268 14 = s0 268 14 := (show s3 268 14 = s0 268 14 from by rw [es3, xU_k _ _ _ (by omega)]).trans k268_14
  have q16 : s3 268 15 = s0 268 15 := (show s3 268 15 = s0 268 15 from by rw [es3, xU_k _ _ _ (by omega)]).trans k268_15
  have hF17 := hF.put es3 (by omega)
  have E17 := es3
  have I17 : x1 = s0 268 15 := by omega
  have W17 : ((1048576 * o) + x2) = 1048576 * o + s0 268 14 := by omega
  refine x_aload_n hx hb hl 0 rfl dX11_jumps_18 rfl ?_
  refine x_aload_n hx hb hl 0 rfl dX11_jumps_19 rfl ?_
  refine x_get (j := 15) (v := .int (xJ (s3 268 15))) hx hb hown hT hE hW cls_X11 (Or.inl (by decide)) (so_268 h0 g _) (by decide) rfl wq1200 dX11_jumps_20 ?_
  refine x_rd hW (fun x18 ex18 rx18 => ?_)
  have fx18 : x18 = s0 268 15 := ex18.trans q16
  refine x_iconst hx hb dX11_jumps_23 ?_
  refine x_iadd hx hb dX11_jumps_24 ?_
  refine x_put (j := 15) hx hb hown hT hE hW cls_X11 (by decide) (fun σ => so_268 h0 g σ) (by decide) (st_X11_15 h0 s3 268 (x18 + 1)) (ln_X11_15 h0 _ _) wq1200 rfl rfl rfl (by omega) dX11_jumps_25 (fun H locs s19 es19 hW => ?_)
  have q20 : IMn s19 := by rw [es19]; exact IMn_268 q4 (by omega)
  have q21 : IMk s19 := by rw [es19]; exact IMk_268 q5 (by omega)
  have q22 : IMo s19 := by rw [es19]; exact IMo_o (by unfold suIMo; omega) q6
  have q23 : IR s19 := by rw [es19]; exact IR_268 q7 (by omega)
  have q24 : s19 268 8 = s0 268 8 := (show s19 268 8 = s3 268 8 from by rw [es19, xU_j _ _ (by decide)]).trans q8
  have q25 : s19 268 58 = s0 268 58 := (show s19 268 58 = s3 268 58 from by rw [es19, xU_j _ _ (by decide)]).trans q9
  have q26 : s19 268 17 = s0 268 17 := (show s19 268 17 = s3 268 17 from by rw [es19, xU_j _ _ (by decide)]).trans q10
  have q27 : s19 268 10 = s0 268 10 := (show s19 268 10 = s3 268 10 from by rw [es19, xU_j _ _ (by decide)]).trans q11
  have q28 : s19 268 16 = s0 268 16 := (show s19 268 16 = s3 268 16 from by rw [es19, xU_j _ _ (by decide)]).trans q12
  have q29 : s19 268 9 = s0 268 9 := (show s19 268 9 = s3 268 9 from by rw [es19, xU_j _ _ (by decide)]).trans q13
  have q30 : s19 268 13 = s0 268 13 := (show s19 268 13 = s3 268 13 from by rw [es19, xU_j _ _ (by decide)]).trans q14
  have q31 : s19 268 14 = s0 268 14 := (show s19 268 14 = s3 268 14 from by rw [es19, xU_j _ _ (by decide)]).trans q15
  have q32 : s19 268 15 = (x18 + 1) := by rw [es19, xU_s]
  have hF33 := hF17.put es19 (by omega)
  have E25 := es19
  refine x_aload_n hx hb hl 0 rfl dX11_jumps_28 rfl ?_
  refine x_iload_n hx hb hl 1 rfl dX11_jumps_29 rfl ?_
  refine x_iconst hx hb dX11_jumps_30 ?_
  refine x_gov (x_runV (As := [.int (xJ o), .int (xJ 0)]) hx hb hml hown hT hE hW hl.1 (Or.inl (by decide)) (so_268 h0 g _) rfl cf_X11_notes wq1493 wq121 wq1491 (c_X11_notesK l D g T h0 s19 hW.2.1 o ro 0 (by decide) (by omega) (by omega) (by omega) q20 q21 q22 q23) ⟨rfl, rfl, ⟨by decide, by decide⟩, ⟨by decide, by decide⟩⟩ rfl rfl (Nat.le_of_ble_eq_true rfl) dX11_jumps_31) hW (fun s35 H locs hp36 hW => ?_)
  obtain ⟨fs35, hp36⟩ := hp36
  have hF37 := hF33.call fs35 (fun k h => by omega)
  have ghp36 := hp36.2
  have H31 := ghp36
  have F31 := fs35
  refine x_aload_n hx hb hl 0 rfl dX11_jumps_34 rfl ?_
  refine x_aload_n hx hb hl 0 rfl dX11_jumps_35 rfl ?_
  refine x_get (j := 9) (v := .int (xJ (s35 268 9))) hx hb hown hT hE hW cls_X11 (Or.inl (by decide)) (so_268 h0 g _) (by decide) rfl wq1194 dX11_jumps_36 ?_
  refine x_rd hW (fun x38 ex38 rx38 => ?_)
  have bx38 : 0 ≤ x38 ∧ x38 ≤ s35 268 10 ∧ s35 268 10 ≤ 240 := by rw [ex38]; exact hp36.1.2.2.2.1
  have fx38 : x38 = s0 268 9 := ex38.trans (hp36.1.2.2.2.2.2.2.2.1.trans q29)
  refine x_iconst hx hb dX11_jumps_39 ?_
  refine x_iadd hx hb dX11_jumps_40 ?_
  refine x_put (j := 9) hx hb hown hT hE hW cls_X11 (by decide) (fun σ => so_268 h0 g σ) (by decide) (st_X11_9 h0 s35 268 (x38 + 1)) (ln_X11_9 h0 _ _) wq1194 rfl rfl rfl (by omega) dX11_jumps_41 (fun H locs s39 es39 hW => ?_)
  have q40 : IMn s39 := by rw [es39]; exact IMn_268 hp36.1.1 (by omega)
  have q41 : IMk s39 := by rw [es39]; exact IMk_268 hp36.1.2.1 (by omega)
  have q42 : IMo s39 := by rw [es39]; exact IMo_o (by unfold suIMo; omega) hp36.1.2.2.1
  have q43 : IR s39 := by rw [es39]; exact IR_268 hp36.1.2.2.2.1 (by omega)
  have q44 : s39 268 8 = s0 268 8 := (show s39 268 8 = s35 268 8 from by rw [es39, xU_j _ _ (by decide)]).trans (hp36.1.2.2.2.2.1.trans q24)
  have q45 : s39 268 58 = s0 268 58 := (show s39 268 58 = s35 268 58 from by rw [es39, xU_j _ _ (by decide)]).trans (hp36.1.2.2.2.2.2.1.trans q25)
  have q46 : s39 268 17 = s0 268 17 := (show s39 268 17 = s35 268 17 from by rw [es39, xU_j _ _ (by decide)]).trans (hp36.1.2.2.2.2.2.2.1.trans q26)
  have q47 : s39 268 9 = (x38 + 1) := by rw [es39, xU_s]
  have q48 : s39 268 10 = s0 268 10 := (show s39 268 10 = s35 268 10 from by rw [es39, xU_j _ _ (by decide)]).trans (hp36.1.2.2.2.2.2.2.2.2.1.trans q27)
  have q49 : s39 268 13 = s0 268 13 := (show s39 268 13 = s35 268 13 from by rw [es39, xU_j _ _ (by decide)]).trans (hp36.1.2.2.2.2.2.2.2.2.2.1.trans q30)
  have q50 : s39 268 15 = (x18 + 1) := (show s39 268 15 = s35 268 15 from by rw [es39, xU_j _ _ (by decide)]).trans (hp36.1.2.2.2.2.2.2.2.2.2.2.1.trans q32)
  have q51 : s39 268 16 = s0 268 16 := (show s39 268 16 = s35 268 16 from by rw [es39, xU_j _ _ (by decide)]).trans (hp36.1.2.2.2.2.2.2.2.2.2.2.2.1.trans q28)
  have hF52 := hF37.put es39 (by omega)
  have E41 := es39
  rw [eQ]
  exact x_vret hx hb hr hlk hW ⟨hF52, ⟨q40, q41, q42, q43, q44, q45, q46, q48, q51, trivial⟩, ⟨hz.jump (v := 1048576 * o + s0 268 14) ho rfl rfl (by omega) (by rw [E41, xU_j _ _ (by decide), H31.2, E25, xU_j _ _ (by decide), E17, xU_k _ _ _ (by omega)]) (by rw [E41, xU_k _ _ _ (by omega), H31.1, E25, xU_k _ _ _ (by omega), xU_j _ _ (by decide), E17, xU_k _ _ _ (by omega), xU_k _ _ _ (by omega), Int.add_zero]) (by omega) (by omega) (by rw [E41, xU_k _ _ _ (by omega), F31 278 (by omega), E25, xU_k _ _ _ (by omega), E17, xU_xud, I17, W17]), by omega⟩⟩ dX11_jumps_44
set_option maxHeartbeats 4000000 in
set_option maxRecDepth 100000 in
theorem c_X11_readsComparedK (l : Launch) (D : va_G) (g : xG) (T : Nat × Nat × Nat) (h0 : Nat) (s0 : xS) (hσ : xRR s0) (f9 : Int → Int) (n9 : Int) (a9 : Int) (Z : Int × Int × Int × (Int → Int)) (hf : xm8 (s0 276) = f9 ∧ s0 268 10 = n9) (hz : zCQ f9 n9 a9 Z true s0) (hc : zch f9 n9 (s0 268 9) ≠ 33 ∧ zch f9 n9 (s0 268 9) ≠ 40) (p0 : IMn s0) (p1 : IMk s0) (p2 : IMo s0) (p3 : IR s0) : Met l yX11_readsCompared (xws yX11_readsCompared cX11_readsCompared 2 (some .boolean)) { frames := 5, cells := 0, slots := 0, locals := 104 } (xP [.ref (h0 + 268)] D g T h0 s0) (xQi D g h0 (fun r τ => xFr (fun k => k = 268 ∨ k = 277 ∨ k = 278) s0 τ ∧ (((IMn τ) ∧ (IMk τ) ∧ (IMo τ) ∧ (IR τ) ∧ (τ 268 8 = s0 268 8) ∧ (τ 268 58 = s0 268 58) ∧ (τ 268 17 = s0 268 17) ∧ (τ 268 10 = s0 268 10) ∧ (τ 268 16 = s0 268 16) ∧ True) ∧ ((r = 0 ∧ Z.1 ≠ 0 ∧ τ 268 11 = Z.1) ∨ (r = 1 ∧ zCQ f9 n9 a9 Z false τ ∧ ztW τ ≠ 10 ∧ 0 < τ 268 15 ∧ s0 268 9 + 1 ≤ τ 268 9))))) 0 0 (xA h0) := by
  refine x_met hσ (by decide) (Nat.le_of_ble_eq_true rfl) ?_
  intro p e s m args below meth c hx hb hr hml hown hT hlk hnm hE hW ls hl
  have hl : lv_has ls 2 [(0, .ref (h0 + 268))] := hl
  obtain ⟨Q, eQ⟩ : ∃ Q, Q = MQ below (xQi D g h0 (fun r τ => xFr (fun k => k = 268 ∨ k = 277 ∨ k = 278) s0 τ ∧ (((IMn τ) ∧ (IMk τ) ∧ (IMo τ) ∧ (IR τ) ∧ (τ 268 8 = s0 268 8) ∧ (τ 268 58 = s0 268 58) ∧ (τ 268 17 = s0 268 17) ∧ (τ 268 10 = s0 268 10) ∧ (τ 268 16 = s0 268 16) ∧ True) ∧ ((r = 0 ∧ Z.1 ≠ 0 ∧ τ 268 11 = Z.1) ∨ (r = 1 ∧ zCQ f9 n9 a9 Z false τ ∧ ztW τ ≠ 10 ∧ 0 < τ 268 15 ∧ s0 268 9 + 1 ≤ τ 268 9))))) args s 0 0 (xA h0) := ⟨_, rfl⟩
  rw [← eQ]
  generalize hHe : ([] : List Loc) = locs at hW ⊢
  obtain ⟨H, eH⟩ : ∃ H, H = s.heap := ⟨_, rfl⟩
  rw [← eH] at hW ⊢
  have hF : xFr (fun k => k = 268 ∨ k = 277 ∨ k = 278) s0 s0 := xFr.rf
  have k268_8 : s0 268 8 = s0 268 8 := rfl
  have k268_58 : s0 268 58 = s0 268 58 := rfl
  have k268_17 : s0 268 17 = s0 268 17 := rfl
  have k268_10 : s0 268 10 = s0 268 10 := rfl
  have k268_16 : s0 268 16 = s0 268 16 := rfl
  have k268_9 : s0 268 9 = s0 268 9 := rfl
  have k268_13 : s0 268 13 = s0 268 13 := rfl
  have k268_14 : s0 268 14 = s0 268 14 := rfl
  have k268_15 : s0 268 15 = s0 268 15 := rfl
  have hf2 := hf.2
  have b0 := hz.b
  have o0 := hz.o
  have w0 := hz.ne
  refine x_aload_n hx hb hl 0 rfl dX11_readsCompared_0 rfl ?_
  refine x_goi (x_runV (As := []) hx hb hml hown hT hE hW hl.1 (Or.inl (by decide)) (so_268 h0 g _) rfl cf_X11_readsSum wq1472 wq116 wq1470 (c_X11_readsSumK l D g T h0 s0 hW.2.1 f9 n9 (s0 268 13) (znN (zls (s0 278) 0 (s0 268 15 - 0).toNat)) (by first | exact hf | exact ⟨by rw [hF 276 (by omega)]; exact hf.1, by omega⟩) (by omega) (by omega) (hz.hb) p0 p1 p2 p3) ⟨rfl, rfl, ⟨by decide, by decide⟩, ⟨by decide, by decide⟩⟩ rfl rfl (Nat.le_of_ble_eq_true rfl) dX11_readsCompared_1) hW (fun x1 s2 H locs rx1 hp3 hW => ?_)
  obtain ⟨fs2, hp3⟩ := hp3
  have hF4 := hF.call fs2 (fun k h => by omega)
  have ghp3 := hp3.2
  have H1 := ghp3
  refine x_if_ne (tgt := 9) hx hb rx1 dX11_readsCompared_4 (by decide) (fun c5 => ?_) (fun c5 => ?_)
  · skip
    refine x_aload_n hx hb hl 0 rfl dX11_readsCompared_9 rfl ?_
    refine x_goi (x_runV (As := []) hx hb hml hown hT hE hW hl.1 (Or.inl (by decide)) (so_268 h0 g _) rfl cf_X11_here wq1391 wq106 wq1389 (c_X11_here l D g T h0 s2 hW.2.1 hp3.1.1 hp3.1.2.1 hp3.1.2.2.1 hp3.1.2.2.2.1) ⟨rfl, rfl, ⟨by decide, by decide⟩, ⟨by decide, by decide⟩⟩ rfl rfl (Nat.le_of_ble_eq_true rfl) dX11_readsCompared_10) hW (fun x6 s7 H locs rx6 hp8 hW => ?_)
    obtain ⟨es7, hp8⟩ := hp8
    subst es7
    have ghp8 := hp8
    have h1 := (H1.resolve_left (fun q => by omega)).2
    obtain ⟨p1, ep1⟩ : ∃ p : Int, p = s2 268 9 := ⟨_, rfl⟩
    obtain ⟨q1, eq1⟩ : ∃ p : Int, p = s2 268 14 := ⟨_, rfl⟩
    obtain ⟨K1, eK1⟩ : ∃ K, K = s2 277 := ⟨_, rfl⟩
    have e1 := h1.1
    rw [← ep1, ← eq1, ← eK1] at e1
    have C10 : x6 = zch f9 n9 (s2 268 9) := by
      have q8 := ghp8.1
      rw [zhC_ch, show s2 276 = s0 276 from hF4 276 (by omega), hf.1, show s2 268 10 = n9 from by omega] at q8
      exact q8
    rw [← ep1] at C10
    have Z10 := zcp_cs (zch f9 n9 p1)
    have L10 : zch f9 n9 p1 ≠ -1 → p1 < n9 := zch_lt
    refine x_bipush hx hb dX11_readsCompared_13 (by decide) ?_
    have J52 : ∀ (t0_52 : Int) (H : Heap) (locs : List Loc) (ls : Array Slot), (xR t0_52) → (t0_52 = zcp (zch f9 n9 p1)) → xW D g h0 s H locs s2 → lv_has ls 2 [(0, .ref (h0 + 268))] → W p l e { frames := 5, cells := 0, slots := 0, locals := 104 } s m args below meth c H locs 0 0 Q (F0 m 52 ls [.int (xJ t0_52)]) := by
      intro t0_52 H locs ls rt0_52 v52_0 hW hl
      refine lv_istore_n (lv' := [(1, .int (xJ t0_52)), (0, .ref (h0 + 268))]) hx hb dX11_readsCompared_52 rfl hl (by decide) rfl (fun ls hl => ?_)
      refine x_iload_n hx hb hl 0 rfl dX11_readsCompared_53 rfl ?_
      refine x_iconst hx hb dX11_readsCompared_54 ?_
      refine x_icmp_ne (tgt := 68) hx hb rt0_52 (by decide) dX11_readsCompared_55 (by decide) (fun c9 => ?_) (fun c9 => ?_)
      · skip
        refine x_aload_n hx hb hl 1 rfl dX11_readsCompared_68 rfl ?_
        refine x_aload_n hx hb hl 1 rfl dX11_readsCompared_69 rfl ?_
        refine x_get (j := 9) (v := .int (xJ (s2 268 9))) hx hb hown hT hE hW cls_X11 (Or.inl (by decide)) (so_268 h0 g _) (by decide) rfl wq1194 dX11_readsCompared_70 ?_
        refine x_rd hW (fun x10 ex10 rx10 => ?_)
        have bx10 : 0 ≤ x10 ∧ x10 ≤ s2 268 10 ∧ s2 268 10 ≤ 240 := by rw [ex10]; exact hp3.1.2.2.2.1
        have q11 : s2 268 9 = x10 := ex10.symm
        refine x_iconst hx hb dX11_readsCompared_73 ?_
        refine x_iadd hx hb dX11_readsCompared_74 ?_
        refine x_put (j := 9) hx hb hown hT hE hW cls_X11 (by decide) (fun σ => so_268 h0 g σ) (by decide) (st_X11_9 h0 s2 268 (x10 + 1)) (ln_X11_9 h0 _ _) wq1194 rfl rfl rfl (by omega) dX11_readsCompared_75 (fun H locs s12 es12 hW => ?_)
        have q13 : IMn s12 := by rw [es12]; exact IMn_268 hp3.1.1 (by omega)
        have q14 : IMk s12 := by rw [es12]; exact IMk_268 hp3.1.2.1 (by omega)
        have q15 : IMo s12 := by rw [es12]; exact IMo_o (by unfold suIMo; omega) hp3.1.2.2.1
        have q16 : IR s12 := by rw [es12]; exact IR_268 hp3.1.2.2.2.1 (by omega)
        have q17 : s12 268 8 = s0 268 8 := (show s12 268 8 = s2 268 8 from by rw [es12, xU_j _ _ (by decide)]).trans (hp3.1.2.2.2.2.1.trans k268_8)
        have q18 : s12 268 58 = s0 268 58 := (show s12 268 58 = s2 268 58 from by rw [es12, xU_j _ _ (by decide)]).trans (hp3.1.2.2.2.2.2.1.trans k268_58)
        have q19 : s12 268 17 = s0 268 17 := (show s12 268 17 = s2 268 17 from by rw [es12, xU_j _ _ (by decide)]).trans (hp3.1.2.2.2.2.2.2.1.trans k268_17)
        have q20 : s12 268 10 = s0 268 10 := (show s12 268 10 = s2 268 10 from by rw [es12, xU_j _ _ (by decide)]).trans (hp3.1.2.2.2.2.2.2.2.1.trans k268_10)
        have q21 : s12 268 16 = s0 268 16 := (show s12 268 16 = s2 268 16 from by rw [es12, xU_j _ _ (by decide)]).trans (hp3.1.2.2.2.2.2.2.2.2.1.trans k268_16)
        have q22 : s12 268 9 = (x10 + 1) := by rw [es12, xU_s]
        have hF23 := hF4.put es12 (by omega)
        have E75 := es12
        have R75 : s12 268 13 = s0 268 13 ∧ s12 268 15 = s0 268 15 := ⟨by rw [E75, xU_j _ _ (by decide)]; exact h1.2.2.2.1, by rw [E75, xU_j _ _ (by decide)]; exact h1.2.2.1⟩
        have Q75 : s12 268 9 = p1 + 1 ∧ s12 268 14 = q1 ∧ s12 277 = K1 := ⟨by omega, by rw [E75, xU_j _ _ (by decide)]; exact eq1.symm, by rw [E75, xU_k _ _ _ (by omega)]; exact eK1.symm⟩
        refine x_aload_n hx hb hl 1 rfl dX11_readsCompared_78 rfl ?_
        refine x_goi (x_runV (As := []) hx hb hml hown hT hE hW hl.1 (Or.inl (by decide)) (so_268 h0 g _) rfl cf_X11_readsSum wq1472 wq116 wq1470 (c_X11_readsSumK l D g T h0 s12 hW.2.1 f9 n9 (s0 268 13) ((znN (zls (s0 278) 0 (s0 268 15 - 0).toNat)) + 1) (by first | exact hf | exact ⟨by rw [hF23 276 (by omega)]; exact hf.1, by omega⟩) (by omega) (by omega) (by rw [show s12 268 15 = s0 268 15 from by omega]; exact hz.hb.elim Or.inl (fun q => Or.inr (by rw [E75, xU_k _ _ _ (by omega), h1.2.2.2.2.1 _ (by omega)]; exact q))) q13 q14 q15 q16) ⟨rfl, rfl, ⟨by decide, by decide⟩, ⟨by decide, by decide⟩⟩ rfl rfl (Nat.le_of_ble_eq_true rfl) dX11_readsCompared_79) hW (fun x24 s25 H locs rx24 hp26 hW => ?_)
        obtain ⟨fs25, hp26⟩ := hp26
        have hF27 := hF23.call fs25 (fun k h => by omega)
        have ghp26 := hp26.2
        have H79 := ghp26
        have H79 := ghp26
        obtain ⟨p2, ep2⟩ : ∃ p : Int, p = s25 268 9 := ⟨_, rfl⟩
        refine x_if_ne (tgt := 87) hx hb rx24 dX11_readsCompared_82 (by decide) (fun c28 => ?_) (fun c28 => ?_)
        · skip
          refine x_aload_n hx hb hl 1 rfl dX11_readsCompared_87 rfl ?_
          have h2 := (H79.resolve_left (fun q => by omega)).2
          have r87 : 0 ≤ s25 268 9 ∧ s25 268 9 ≤ s25 268 10 ∧ s25 268 10 ≤ 240 := hp26.1.2.2.2.1
          refine x_iload_n hx hb hl 0 rfl dX11_readsCompared_88 rfl ?_
          refine x_iconst hx hb dX11_readsCompared_89 ?_
          refine x_gov (x_runV (As := [.int (xJ t0_52), .int (xJ 0)]) hx hb hml hown hT hE hW hl.1 (Or.inl (by decide)) (so_268 h0 g _) rfl cf_X11_notes wq1493 wq121 wq1491 (c_X11_notesK l D g T h0 s25 hW.2.1 t0_52 rt0_52 0 (by decide) (by omega) (by omega) (by omega) hp26.1.1 hp26.1.2.1 hp26.1.2.2.1 hp26.1.2.2.2.1) ⟨rfl, rfl, ⟨by decide, by decide⟩, ⟨by decide, by decide⟩⟩ rfl rfl (Nat.le_of_ble_eq_true rfl) dX11_readsCompared_90) hW (fun s30 H locs hp31 hW => ?_)
          obtain ⟨fs30, hp31⟩ := hp31
          have hF32 := hF27.call fs30 (fun k h => by omega)
          have ghp31 := hp31.2
          have H90 := ghp31
          have F90 := fs30
          have e2 := h2.1
          rw [Q75.1, Q75.2.1, Q75.2.2] at e2
          have X90 : zCQ f9 n9 a9 Z false s30 := hz.cmp hc e1 (by omega) e2 (by omega) (fun k hk => by rw [h2.2.2.2.2.2.2.2.2 k (by omega), E75, xU_k _ _ _ (by omega)]; exact h1.2.2.2.2.2.2.2.2 k hk) rfl (by omega) (by omega) (by rw [H90.1]; congr 1; omega) (by omega) (by omega) (fun i hi => by rw [F90 278 (by omega), h2.2.2.2.2.1 i (by omega), E75, xU_k _ _ _ (by omega)]; exact h1.2.2.2.2.1 i hi)
          refine x_aload_n hx hb hl 1 rfl dX11_readsCompared_93 rfl ?_
          refine x_gov (x_runV (As := []) hx hb hml hown hT hE hW hl.1 (Or.inl (by decide)) (so_268 h0 g _) rfl cf_X11_endsPiece wq1523 wq127 wq1521 (c_X11_endsPieceK l D g T h0 s30 hW.2.1 f9 n9 a9 Z (by first | exact hf | exact ⟨by rw [hF32 276 (by omega)]; exact hf.1, by omega⟩) (X90) (by omega) hp31.1.1 hp31.1.2.1 hp31.1.2.2.1 hp31.1.2.2.2.1) ⟨rfl, rfl, ⟨by decide, by decide⟩, ⟨by decide, by decide⟩⟩ rfl rfl (Nat.le_of_ble_eq_true rfl) dX11_readsCompared_94) hW (fun s34 H locs hp35 hW => ?_)
          obtain ⟨fs34, hp35⟩ := hp35
          have hF36 := hF32.call fs34 (fun k h => by omega)
          have ghp35 := hp35.2
          have H94 := ghp35
          refine x_iconst hx hb dX11_readsCompared_97 ?_
          rw [eQ]
          exact x_zret hx hb hr hlk hW (by omega) ⟨hF36, ⟨hp35.1.1, hp35.1.2.1, hp35.1.2.2.1, hp35.1.2.2.2.1, (hp35.1.2.2.2.2.1.trans (hp31.1.2.2.2.2.1.trans (hp26.1.2.2.2.2.1.trans q17))), (hp35.1.2.2.2.2.2.1.trans (hp31.1.2.2.2.2.2.1.trans (hp26.1.2.2.2.2.2.1.trans q18))), (hp35.1.2.2.2.2.2.2.1.trans (hp31.1.2.2.2.2.2.2.1.trans (hp26.1.2.2.2.2.2.2.1.trans q19))), (hp35.1.2.2.2.2.2.2.2.2.1.trans (hp31.1.2.2.2.2.2.2.2.2.1.trans (hp26.1.2.2.2.2.2.2.2.1.trans q20))), (hp35.1.2.2.2.2.2.2.2.2.2.1.trans (hp31.1.2.2.2.2.2.2.2.2.2.2.2.1.trans (hp26.1.2.2.2.2.2.2.2.2.1.trans q21))), trivial⟩, Or.inr ⟨by omega, H94.1, H94.2.1, H94.2.2, by omega⟩⟩ dX11_readsCompared_98
        refine x_iconst hx hb dX11_readsCompared_85 ?_
        rw [eQ]
        exact x_zret hx hb hr hlk hW (by omega) ⟨hF27, ⟨hp26.1.1, hp26.1.2.1, hp26.1.2.2.1, hp26.1.2.2.2.1, (hp26.1.2.2.2.2.1.trans q17), (hp26.1.2.2.2.2.2.1.trans q18), (hp26.1.2.2.2.2.2.2.1.trans q19), (hp26.1.2.2.2.2.2.2.2.1.trans q20), (hp26.1.2.2.2.2.2.2.2.2.1.trans q21), trivial⟩, by
    have e := H79.resolve_right (fun q => by omega)
    rw [Q75.1, Q75.2.1, Q75.2.2] at e
    have z := hz.1.e2 hc (by rw [← hz.2.2.1]; exact e1) (by omega) (by rw [← hz.2.2.1]; exact e.2.1)
    rw [z, ← hz.2.2.1]
    exact Or.inl ⟨by omega, e.2.1, e.2.2⟩⟩ dX11_readsCompared_86
      refine x_aload_n hx hb hl 1 rfl dX11_readsCompared_58 rfl ?_
      refine x_iconst hx hb dX11_readsCompared_59 ?_
      refine x_aload_n hx hb hl 1 rfl dX11_readsCompared_60 rfl ?_
      refine x_get (j := 9) (v := .int (xJ (s2 268 9))) hx hb hown hT hE hW cls_X11 (Or.inl (by decide)) (so_268 h0 g _) (by decide) rfl wq1194 dX11_readsCompared_61 ?_
      refine x_rd hW (fun x37 ex37 rx37 => ?_)
      have bx37 : 0 ≤ x37 ∧ x37 ≤ s2 268 10 ∧ s2 268 10 ≤ 240 := by rw [ex37]; exact hp3.1.2.2.2.1
      have q38 : s2 268 9 = x37 := ex37.symm
      refine x_goi (x_runV (As := [.int (xJ 1), .int (xJ x37)]) hx hb hml hown hT hE hW hl.1 (Or.inl (by decide)) (so_268 h0 g _) rfl cf_X11_wrongAt wq1401 wq107 wq1399 (c_X11_wrongAtK l D g T h0 s2 hW.2.1 1 (by decide) x37 rx37 (by omega) hp3.1.1 hp3.1.2.1 hp3.1.2.2.1 hp3.1.2.2.2.1) ⟨rfl, rfl, ⟨by decide, by decide⟩, ⟨by decide, by decide⟩⟩ rfl rfl (Nat.le_of_ble_eq_true rfl) dX11_readsCompared_64) hW (fun x39 s40 H locs rx39 hp41 hW => ?_)
      obtain ⟨fs40, hp41⟩ := hp41
      have hF42 := hF4.call fs40 (fun k h => by omega)
      have ghp41 := hp41.2
      rw [eQ]
      exact x_zret hx hb hr hlk hW (by omega) ⟨hF42, ⟨hp41.1.1, hp41.1.2.1, hp41.1.2.2.1, hp41.1.2.2.2.1, (hp41.1.2.2.2.2.1.trans (hp3.1.2.2.2.2.1.trans k268_8)), (hp41.1.2.2.2.2.2.1.trans (hp3.1.2.2.2.2.2.1.trans k268_58)), (hp41.1.2.2.2.2.2.2.1.trans (hp3.1.2.2.2.2.2.2.1.trans k268_17)), (hp41.1.2.2.2.2.2.2.2.2.1.trans (hp3.1.2.2.2.2.2.2.2.1.trans k268_10)), (hp41.1.2.2.2.2.2.2.2.2.2.2.2.2.1.trans (hp3.1.2.2.2.2.2.2.2.2.1.trans k268_16)), trivial⟩, by
    have z := hz.1.one hc (by rw [← hz.2.2.1]; exact e1) (by omega)
    rw [z]
    exact Or.inl ⟨by omega, (by show (-1000 - _ : Int) ≠ 0; omega), (by show _ = (-1000 - _ : Int); omega)⟩⟩ dX11_readsCompared_67
    refine x_icmp_ne (tgt := 23) hx hb rx6 (by decide) dX11_readsCompared_15 (by decide) (fun c43 => ?_) (fun c43 => ?_)
    · skip
      refine x_aload_n hx hb hl 0 rfl dX11_readsCompared_23 rfl ?_
      refine x_goi (x_runV (As := []) hx hb hml hown hT hE hW hl.1 (Or.inl (by decide)) (so_268 h0 g _) rfl cf_X11_here wq1391 wq106 wq1389 (c_X11_here l D g T h0 s2 hW.2.1 hp3.1.1 hp3.1.2.1 hp3.1.2.2.1 hp3.1.2.2.2.1) ⟨rfl, rfl, ⟨by decide, by decide⟩, ⟨by decide, by decide⟩⟩ rfl rfl (Nat.le_of_ble_eq_true rfl) dX11_readsCompared_24) hW (fun x44 s45 H locs rx44 hp46 hW => ?_)
      obtain ⟨es45, hp46⟩ := hp46
      subst es45
      have ghp46 := hp46
      have C24 : x44 = zch f9 n9 (s2 268 9) := by
        have q8 := ghp46.1
        rw [zhC_ch, show s2 276 = s0 276 from hF4 276 (by omega), hf.1, show s2 268 10 = n9 from by omega] at q8
        exact q8
      rw [← ep1] at C24
      refine x_bipush hx hb dX11_readsCompared_27 (by decide) ?_
      refine x_icmp_ne (tgt := 37) hx hb rx44 (by decide) dX11_readsCompared_29 (by decide) (fun c47 => ?_) (fun c47 => ?_)
      · skip
        refine x_aload_n hx hb hl 0 rfl dX11_readsCompared_37 rfl ?_
        refine x_goi (x_runV (As := []) hx hb hml hown hT hE hW hl.1 (Or.inl (by decide)) (so_268 h0 g _) rfl cf_X11_here wq1391 wq106 wq1389 (c_X11_here l D g T h0 s2 hW.2.1 hp3.1.1 hp3.1.2.1 hp3.1.2.2.1 hp3.1.2.2.2.1) ⟨rfl, rfl, ⟨by decide, by decide⟩, ⟨by decide, by decide⟩⟩ rfl rfl (Nat.le_of_ble_eq_true rfl) dX11_readsCompared_38) hW (fun x48 s49 H locs rx48 hp50 hW => ?_)
        obtain ⟨es49, hp50⟩ := hp50
        subst es49
        have ghp50 := hp50
        have C38 : x48 = zch f9 n9 (s2 268 9) := by
          have q8 := ghp50.1
          rw [zhC_ch, show s2 276 = s0 276 from hF4 276 (by omega), hf.1, show s2 268 10 = n9 from by omega] at q8
          exact q8
        rw [← ep1] at C38
        refine x_bipush hx hb dX11_readsCompared_41 (by decide) ?_
        refine x_icmp_ne (tgt := 51) hx hb rx48 (by decide) dX11_readsCompared_43 (by decide) (fun c51 => ?_) (fun c51 => ?_)
        · skip
          refine x_iconst hx hb dX11_readsCompared_51 ?_
          exact J52 (-1) H locs ls (by decide) (by omega) hW (lv_sub hl [0] rfl)
        refine x_bipush hx hb dX11_readsCompared_46 (by decide) ?_
        refine lv_goto (tgt := 52) hx hb dX11_readsCompared_48 (by decide) ?_
        exact J52 9 H locs ls (by decide) (by omega) hW (lv_sub hl [0] rfl)
      refine x_bipush hx hb dX11_readsCompared_32 (by decide) ?_
      refine lv_goto (tgt := 52) hx hb dX11_readsCompared_34 (by decide) ?_
      exact J52 8 H locs ls (by decide) (by omega) hW (lv_sub hl [0] rfl)
    refine x_bipush hx hb dX11_readsCompared_18 (by decide) ?_
    refine lv_goto (tgt := 52) hx hb dX11_readsCompared_20 (by decide) ?_
    exact J52 7 H locs ls (by decide) (by omega) hW (lv_sub hl [0] rfl)
  refine x_iconst hx hb dX11_readsCompared_7 ?_
  rw [eQ]
  exact x_zret hx hb hr hlk hW (by omega) ⟨hF4, ⟨hp3.1.1, hp3.1.2.1, hp3.1.2.2.1, hp3.1.2.2.2.1, (hp3.1.2.2.2.2.1.trans k268_8), (hp3.1.2.2.2.2.2.1.trans k268_58), (hp3.1.2.2.2.2.2.2.1.trans k268_17), (hp3.1.2.2.2.2.2.2.2.1.trans k268_10), (hp3.1.2.2.2.2.2.2.2.2.1.trans k268_16), trivial⟩, by
    have e := H1.resolve_right (fun q => by omega)
    have z := hz.1.e1 hc (by rw [← hz.2.2.1]; exact e.2.1)
    rw [z, ← hz.2.2.1]
    exact Or.inl ⟨by omega, e.2.1, e.2.2⟩⟩ dX11_readsCompared_8
