set_option maxHeartbeats 4000000 in
set_option maxRecDepth 100000 in
theorem c_X11_endsPieceK (l : Launch) (D : va_G) (g : xG) (T : Nat × Nat × Nat) (h0 : Nat) (s0 : xS) (hσ : xRR s0) (f9 : Int → Int) (n9 : Int) (a9 : Int) (Z : Int × Int × Int × (Int → Int)) (hf : xm8 (s0 276) = f9 ∧ s0 268 10 = n9) (hz : zCQ f9 n9 a9 Z false s0) (hw0 : 0 < s0 268 15) (p0 : IMn s0) (p1 : IMk s0) (p2 : IMo s0) (p3 : IR s0) : Met l yX11_endsPiece (xws yX11_endsPiece cX11_endsPiece 1 none) { frames := 1, cells := 0, slots := 0, locals := 22 } (xP [.ref (h0 + 268)] D g T h0 s0) (xQv D g h0 (fun τ => xFr (fun k => k = 268 ∨ k = 277) s0 τ ∧ (((IMn τ) ∧ (IMk τ) ∧ (IMo τ) ∧ (IR τ) ∧ (τ 268 8 = s0 268 8) ∧ (τ 268 58 = s0 268 58) ∧ (τ 268 17 = s0 268 17) ∧ (τ 268 9 = s0 268 9) ∧ (τ 268 10 = s0 268 10) ∧ (τ 268 16 = s0 268 16) ∧ (τ 268 48 = s0 268 48) ∧ True) ∧ (zCQ f9 n9 a9 Z false τ ∧ ztW τ ≠ 10 ∧ 0 < τ 268 15)))) 0 0 (xA h0) := by
  refine x_met hσ (by decide) (Nat.le_of_ble_eq_true rfl) ?_
  intro p e s m args below meth c hx hb hr hml hown hT hlk hnm hE hW ls hl
  have hl : lv_has ls 1 [(0, .ref (h0 + 268))] := hl
  obtain ⟨Q, eQ⟩ : ∃ Q, Q = MQ below (xQv D g h0 (fun τ => xFr (fun k => k = 268 ∨ k = 277) s0 τ ∧ (((IMn τ) ∧ (IMk τ) ∧ (IMo τ) ∧ (IR τ) ∧ (τ 268 8 = s0 268 8) ∧ (τ 268 58 = s0 268 58) ∧ (τ 268 17 = s0 268 17) ∧ (τ 268 9 = s0 268 9) ∧ (τ 268 10 = s0 268 10) ∧ (τ 268 16 = s0 268 16) ∧ (τ 268 48 = s0 268 48) ∧ True) ∧ (zCQ f9 n9 a9 Z false τ ∧ ztW τ ≠ 10 ∧ 0 < τ 268 15)))) args s 0 0 (xA h0) := ⟨_, rfl⟩
  rw [← eQ]
  generalize hHe : ([] : List Loc) = locs at hW ⊢
  obtain ⟨H, eH⟩ : ∃ H, H = s.heap := ⟨_, rfl⟩
  rw [← eH] at hW ⊢
  have hF : xFr (fun k => k = 268 ∨ k = 277) s0 s0 := xFr.rf
  have k268_8 : s0 268 8 = s0 268 8 := rfl
  have k268_58 : s0 268 58 = s0 268 58 := rfl
  have k268_17 : s0 268 17 = s0 268 17 := rfl
  have k268_9 : s0 268 9 = s0 268 9 := rfl
  have k268_10 : s0 268 10 = s0 268 10 := rfl
  have k268_16 : s0 268 16 = s0 268 16 := rfl
  have k268_48 : s0 268 48 = s0 268 48 := rfl
  have k268_13 : s0 268 13 = s0 268 13 := rfl
  have k268_14 : s0 268 14 = s0 268 14 := rfl
  have k268_15 : s0 268 15 = s0 268 15 := rfl
  have hf2 := hf.2
  have L0 : ∀ (fu : Nat) (s_0 : xS) (H : Heap) (locs : List Loc) (ls : Array Slot), (xFr (fun k => k = 268 ∨ k = 277) s0 s_0) → (IMn s_0) → (IMk s_0) → (IMo s_0) → (IR s_0) → (s_0 268 8 = s0 268 8) → (s_0 268 58 = s0 268 58) → (s_0 268 17 = s0 268 17) → (s_0 268 9 = s0 268 9) → (s_0 268 10 = s0 268 10) → (s_0 268 16 = s0 268 16) → (s_0 268 48 = s0 268 48) → (zCQ f9 n9 a9 Z false s_0 ∧ 0 < s_0 268 15) → (s_0 268 15).toNat < fu → xW D g h0 s H locs s_0 → lv_has ls 1 [(0, .ref (h0 + 268))] → W p l e { frames := 1, cells := 0, slots := 0, locals := 22 } s m args below meth c H locs 0 0 Q (F0 m 0 ls []) := by
    intro fu
    induction fu with
    | zero => intro s_0 H locs ls hF_0 q0_0 q0_1 q0_2 q0_3 q0_4 q0_5 q0_6 q0_7 q0_8 q0_9 q0_10 v0_0 hm; exact absurd hm (Nat.not_lt_zero _)
    | succ fu ih0 =>
      intro s_0 H locs ls hF_0 q0_0 q0_1 q0_2 q0_3 q0_4 q0_5 q0_6 q0_7 q0_8 q0_9 q0_10 v0_0 hm hW hl
      have hm_0 := fun (_ : Unit) => hm
      clear hm
      have b0 := v0_0.1.b
      have o0 := v0_0.1.o
      have w0 := v0_0.2
      refine x_aload_n hx hb hl 0 rfl dX11_endsPiece_0 rfl ?_
      refine x_goi (x_runV (As := []) hx hb hml hown hT hE hW hl.1 (Or.inl (by decide)) (so_268 h0 g _) rfl cf_X11_waitTop wq1507 wq123 wq1505 (c_X11_waitTopK l D g T h0 s_0 hW.2.1 (v0_0.1.wt) q0_0 q0_1 q0_2 q0_3) ⟨rfl, rfl, ⟨by decide, by decide⟩, ⟨by decide, by decide⟩⟩ rfl rfl (Nat.le_of_ble_eq_true rfl) dX11_endsPiece_1) hW (fun x1 s2 H locs rx1 hp3 hW => ?_)
      obtain ⟨es2, hp3⟩ := hp3
      subst es2
      have ghp3 := hp3
      have H1 := ghp3
      refine x_bipush hx hb dX11_endsPiece_4 (by decide) ?_
      refine x_icmp_ne (tgt := 39) hx hb rx1 (by decide) dX11_endsPiece_6 (by decide) (fun c4 => ?_) (fun c4 => ?_)
      · skip
        rw [eQ]
        exact x_vret hx hb hr hlk hW ⟨hF_0, ⟨q0_0, q0_1, q0_2, q0_3, q0_4, q0_5, q0_6, q0_7, q0_8, q0_9, q0_10, trivial⟩, ⟨v0_0.1, by omega, by omega⟩⟩ dX11_endsPiece_39
      refine x_aload_n hx hb hl 0 rfl dX11_endsPiece_9 rfl ?_
      refine x_bipush hx hb dX11_endsPiece_10 (by decide) ?_
      refine x_iconst hx hb dX11_endsPiece_12 ?_
      refine x_gov (x_runV (As := [.int (xJ 10), .int (xJ 0)]) hx hb hml hown hT hE hW hl.1 (Or.inl (by decide)) (so_268 h0 g _) rfl cf_X11_notes wq1493 wq121 wq1491 (c_X11_notesK l D g T h0 s_0 hW.2.1 10 (by decide) 0 (by decide) (by omega) (by omega) (by omega) q0_0 q0_1 q0_2 q0_3) ⟨rfl, rfl, ⟨by decide, by decide⟩, ⟨by decide, by decide⟩⟩ rfl rfl (Nat.le_of_ble_eq_true rfl) dX11_endsPiece_13) hW (fun s6 H locs hp7 hW => ?_)
      obtain ⟨fs6, hp7⟩ := hp7
      have hF8 := hF_0.call fs6 (fun k h => by omega)
      have ghp7 := hp7.2
      have H13 := ghp7
      have F13 := fs6
      refine x_aload_n hx hb hl 0 rfl dX11_endsPiece_16 rfl ?_
      refine x_aload_n hx hb hl 0 rfl dX11_endsPiece_17 rfl ?_
      refine x_get (j := 15) (v := .int (xJ (s6 268 15))) hx hb hown hT hE hW cls_X11 (Or.inl (by decide)) (so_268 h0 g _) (by decide) rfl wq1200 dX11_endsPiece_18 ?_
      refine x_rd hW (fun x9 ex9 rx9 => ?_)
      have fx9 : x9 = s_0 268 15 := ex9.trans hp7.1.2.2.2.2.2.2.2.2.2.2.1
      refine x_iconst hx hb dX11_endsPiece_21 ?_
      refine x_isub hx hb dX11_endsPiece_22 ?_
      refine x_put (j := 15) hx hb hown hT hE hW cls_X11 (by decide) (fun σ => so_268 h0 g σ) (by decide) (st_X11_15 h0 s6 268 (x9 - 1)) (ln_X11_15 h0 _ _) wq1200 rfl rfl rfl (by omega) dX11_endsPiece_23 (fun H locs s10 es10 hW => ?_)
      have q11 : IMn s10 := by rw [es10]; exact IMn_268 hp7.1.1 (by omega)
      have q12 : IMk s10 := by rw [es10]; exact IMk_268 hp7.1.2.1 (by omega)
      have q13 : IMo s10 := by rw [es10]; exact IMo_o (by unfold suIMo; first | decide | omega) hp7.1.2.2.1
      have q14 : IR s10 := by rw [es10]; exact IR_268 hp7.1.2.2.2.1 (by omega)
      have q15 : s10 268 8 = s0 268 8 := (show s10 268 8 = s6 268 8 from by rw [es10, xU_j _ _ (by decide)]).trans (hp7.1.2.2.2.2.1.trans q0_4)
      have q16 : s10 268 58 = s0 268 58 := (show s10 268 58 = s6 268 58 from by rw [es10, xU_j _ _ (by decide)]).trans (hp7.1.2.2.2.2.2.1.trans q0_5)
      have q17 : s10 268 17 = s0 268 17 := (show s10 268 17 = s6 268 17 from by rw [es10, xU_j _ _ (by decide)]).trans (hp7.1.2.2.2.2.2.2.1.trans q0_6)
      have q18 : s10 268 9 = s0 268 9 := (show s10 268 9 = s6 268 9 from by rw [es10, xU_j _ _ (by decide)]).trans (hp7.1.2.2.2.2.2.2.2.1.trans q0_7)
      have q19 : s10 268 10 = s0 268 10 := (show s10 268 10 = s6 268 10 from by rw [es10, xU_j _ _ (by decide)]).trans (hp7.1.2.2.2.2.2.2.2.2.1.trans q0_8)
      have q20 : s10 268 13 = s_0 268 13 := (show s10 268 13 = s6 268 13 from by rw [es10, xU_j _ _ (by decide)]).trans hp7.1.2.2.2.2.2.2.2.2.2.1
      have q21 : s10 268 15 = (x9 - 1) := by rw [es10, xU_s]
      have q22 : s10 268 16 = s0 268 16 := (show s10 268 16 = s6 268 16 from by rw [es10, xU_j _ _ (by decide)]).trans (hp7.1.2.2.2.2.2.2.2.2.2.2.2.1.trans q0_9)
      have q23 : s10 268 48 = s0 268 48 := (show s10 268 48 = s6 268 48 from by rw [es10, xU_j _ _ (by decide)]).trans (hp7.1.2.2.2.2.2.2.2.2.2.2.2.2.1.trans q0_10)
      have hF24 := hF8.put es10 (by omega)
      have E23 := es10
      refine x_aload_n hx hb hl 0 rfl dX11_endsPiece_26 rfl ?_
      refine x_aload_n hx hb hl 0 rfl dX11_endsPiece_27 rfl ?_
      refine x_get (j := 13) (v := .int (xJ (s10 268 13))) hx hb hown hT hE hW cls_X11 (Or.inl (by decide)) (so_268 h0 g _) (by decide) rfl wq1198 dX11_endsPiece_28 ?_
      refine x_rd hW (fun x25 ex25 rx25 => ?_)
      have fx25 : x25 = s_0 268 13 := ex25.trans q20
      refine x_iconst hx hb dX11_endsPiece_31 ?_
      refine x_isub hx hb dX11_endsPiece_32 ?_
      refine x_put (j := 13) hx hb hown hT hE hW cls_X11 (by decide) (fun σ => so_268 h0 g σ) (by decide) (st_X11_13 h0 s10 268 (x25 - 1)) (ln_X11_13 h0 _ _) wq1198 rfl rfl rfl (by omega) dX11_endsPiece_33 (fun H locs s26 es26 hW => ?_)
      have q27 : IMn s26 := by rw [es26]; exact IMn_268 q11 (by omega)
      have q28 : IMk s26 := by rw [es26]; exact IMk_268 q12 (by omega)
      have q29 : IMo s26 := by rw [es26]; exact IMo_o (by unfold suIMo; first | decide | omega) q13
      have q30 : IR s26 := by rw [es26]; exact IR_268 q14 (by omega)
      have q31 : s26 268 8 = s0 268 8 := (show s26 268 8 = s10 268 8 from by rw [es26, xU_j _ _ (by decide)]).trans q15
      have q32 : s26 268 58 = s0 268 58 := (show s26 268 58 = s10 268 58 from by rw [es26, xU_j _ _ (by decide)]).trans q16
      have q33 : s26 268 17 = s0 268 17 := (show s26 268 17 = s10 268 17 from by rw [es26, xU_j _ _ (by decide)]).trans q17
      have q34 : s26 268 9 = s0 268 9 := (show s26 268 9 = s10 268 9 from by rw [es26, xU_j _ _ (by decide)]).trans q18
      have q35 : s26 268 10 = s0 268 10 := (show s26 268 10 = s10 268 10 from by rw [es26, xU_j _ _ (by decide)]).trans q19
      have q36 : s26 268 13 = (x25 - 1) := by rw [es26, xU_s]
      have q37 : s26 268 15 = (x9 - 1) := (show s26 268 15 = s10 268 15 from by rw [es26, xU_j _ _ (by decide)]).trans q21
      have q38 : s26 268 16 = s0 268 16 := (show s26 268 16 = s10 268 16 from by rw [es26, xU_j _ _ (by decide)]).trans q22
      have q39 : s26 268 48 = s0 268 48 := (show s26 268 48 = s10 268 48 from by rw [es26, xU_j _ _ (by decide)]).trans q23
      have hF40 := hF24.put es26 (by omega)
      have E33 := es26
      refine lv_goto (tgt := 0) hx hb dX11_endsPiece_36 (by decide) ?_
      exact ih0 s26 H locs ls hF40 q27 q28 q29 q30 q31 q32 q33 q34 q35 q38 q39 (v0_0.1.not (by omega) (by omega) (by rw [E33, xU_j _ _ (by decide), E23, xU_j _ _ (by decide)]; exact H13.2) (by rw [E33, xU_k _ _ _ (by first | decide | omega), E23, xU_k _ _ _ (by first | decide | omega), H13.1]; rfl) (by omega) (by omega) (by rw [E33, xU_k _ _ _ (by first | decide | omega), E23, xU_k _ _ _ (by first | decide | omega), F13 278 (by omega)])) (by have hm := hm_0 (); omega) hW (lv_sub hl [0] rfl)
  exact L0 ((s0 268 15 : Int).toNat + 1) s0 H locs ls hF p0 p1 p2 p3 k268_8 k268_58 k268_17 k268_9 k268_10 k268_16 k268_48 (⟨hz, hw0⟩) (Nat.lt_succ_self _) hW (lv_sub hl [0] rfl)
set_option maxHeartbeats 4000000 in
set_option maxRecDepth 100000 in
theorem c_X11_landsK (l : Launch) (D : va_G) (g : xG) (T : Nat × Nat × Nat) (h0 : Nat) (s0 : xS) (hσ : xRR s0) (x : Int) (rx : xR x) (f9 : Int → Int) (n9 : Int) (a9 : Int) (Z : Int × Int × Int × (Int → Int)) (hf : xm8 (s0 276) = f9 ∧ s0 268 10 = n9) (hz : zCQ f9 n9 a9 Z false s0) (hxz : (x = 0 ∨ (x = 1 ∧ zch f9 n9 (s0 268 9) ≠ 38)) ∧ ztW s0 ≠ 10 ∧ 10 ≤ ztW s0) (p0 : IMn s0) (p1 : IMk s0) (p2 : IMo s0) (p3 : IR s0) : Met l yX11_lands (xws yX11_lands cX11_lands 3 none) { frames := 1, cells := 0, slots := 0, locals := 20 } (xP [.ref (h0 + 268), .int (xJ x)] D g T h0 s0) (xQv D g h0 (fun τ => xFr (fun k => k = 268 ∨ k = 277) s0 τ ∧ (((IMn τ) ∧ (IMk τ) ∧ (IMo τ) ∧ (IR τ) ∧ (τ 268 8 = s0 268 8) ∧ (τ 268 58 = s0 268 58) ∧ (τ 268 17 = s0 268 17) ∧ (τ 268 9 = s0 268 9) ∧ (τ 268 10 = s0 268 10) ∧ (τ 268 13 = s0 268 13) ∧ (τ 268 14 = s0 268 14) ∧ (τ 268 16 = s0 268 16) ∧ (τ 268 48 = s0 268 48) ∧ True) ∧ (zCQ f9 n9 a9 Z false τ ∧ 12 ≤ ztW τ ∧ (x = 0 ∨ 13 ≤ ztW τ))))) 0 0 (xA h0) := by
  refine x_met hσ (by decide) (Nat.le_of_ble_eq_true rfl) ?_
  intro p e s m args below meth c hx hb hr hml hown hT hlk hnm hE hW ls hl
  have hl : lv_has ls 3 [(0, .ref (h0 + 268)), (1, .int (xJ x))] := hl
  obtain ⟨Q, eQ⟩ : ∃ Q, Q = MQ below (xQv D g h0 (fun τ => xFr (fun k => k = 268 ∨ k = 277) s0 τ ∧ (((IMn τ) ∧ (IMk τ) ∧ (IMo τ) ∧ (IR τ) ∧ (τ 268 8 = s0 268 8) ∧ (τ 268 58 = s0 268 58) ∧ (τ 268 17 = s0 268 17) ∧ (τ 268 9 = s0 268 9) ∧ (τ 268 10 = s0 268 10) ∧ (τ 268 13 = s0 268 13) ∧ (τ 268 14 = s0 268 14) ∧ (τ 268 16 = s0 268 16) ∧ (τ 268 48 = s0 268 48) ∧ True) ∧ (zCQ f9 n9 a9 Z false τ ∧ 12 ≤ ztW τ ∧ (x = 0 ∨ 13 ≤ ztW τ))))) args s 0 0 (xA h0) := ⟨_, rfl⟩
  rw [← eQ]
  generalize hHe : ([] : List Loc) = locs at hW ⊢
  obtain ⟨H, eH⟩ : ∃ H, H = s.heap := ⟨_, rfl⟩
  rw [← eH] at hW ⊢
  have hF : xFr (fun k => k = 268 ∨ k = 277) s0 s0 := xFr.rf
  have k268_8 : s0 268 8 = s0 268 8 := rfl
  have k268_58 : s0 268 58 = s0 268 58 := rfl
  have k268_17 : s0 268 17 = s0 268 17 := rfl
  have k268_9 : s0 268 9 = s0 268 9 := rfl
  have k268_10 : s0 268 10 = s0 268 10 := rfl
  have k268_13 : s0 268 13 = s0 268 13 := rfl
  have k268_14 : s0 268 14 = s0 268 14 := rfl
  have k268_16 : s0 268 16 = s0 268 16 := rfl
  have k268_48 : s0 268 48 = s0 268 48 := rfl
  have k268_15 : s0 268 15 = s0 268 15 := rfl
  have hf2 := hf.2
  have L0 : ∀ (fu : Nat) (s_0 : xS) (H : Heap) (locs : List Loc) (ls : Array Slot), (xFr (fun k => k = 268 ∨ k = 277) s0 s_0) → (IMn s_0) → (IMk s_0) → (IMo s_0) → (IR s_0) → (s_0 268 8 = s0 268 8) → (s_0 268 58 = s0 268 58) → (s_0 268 17 = s0 268 17) → (s_0 268 9 = s0 268 9) → (s_0 268 10 = s0 268 10) → (s_0 268 13 = s0 268 13) → (s_0 268 14 = s0 268 14) → (s_0 268 16 = s0 268 16) → (s_0 268 48 = s0 268 48) → (zCQ f9 n9 a9 Z false s_0) → (ztW s_0 ≠ 10 ∧ 10 ≤ ztW s_0) → (s_0 268 15).toNat < fu → xW D g h0 s H locs s_0 → lv_has ls 3 [(0, .ref (h0 + 268)), (1, .int (xJ x))] → W p l e { frames := 1, cells := 0, slots := 0, locals := 20 } s m args below meth c H locs 0 0 Q (F0 m 0 ls []) := by
    intro fu
    induction fu with
    | zero => intro s_0 H locs ls hF_0 q0_0 q0_1 q0_2 q0_3 q0_4 q0_5 q0_6 q0_7 q0_8 q0_9 q0_10 q0_11 q0_12 v0_0 v0_1 hm; exact absurd hm (Nat.not_lt_zero _)
    | succ fu ih0 =>
      intro s_0 H locs ls hF_0 q0_0 q0_1 q0_2 q0_3 q0_4 q0_5 q0_6 q0_7 q0_8 q0_9 q0_10 q0_11 q0_12 v0_0 v0_1 hm hW hl
      have hm_0 := fun (_ : Unit) => hm
      clear hm
      have b0 := v0_0.b
      have n0 := v0_0.ne2 (by omega)
      have t0 := v0_0.top n0
      refine x_aload_n hx hb hl 0 rfl dX11_lands_0 rfl ?_
      refine x_goi (x_runV (As := []) hx hb hml hown hT hE hW hl.1 (Or.inl (by decide)) (so_268 h0 g _) rfl cf_X11_waitTop wq1507 wq123 wq1505 (c_X11_waitTopK l D g T h0 s_0 hW.2.1 (v0_0.wt) q0_0 q0_1 q0_2 q0_3) ⟨rfl, rfl, ⟨by decide, by decide⟩, ⟨by decide, by decide⟩⟩ rfl rfl (Nat.le_of_ble_eq_true rfl) dX11_lands_1) hW (fun x1 s2 H locs rx1 hp3 hW => ?_)
      obtain ⟨es2, hp3⟩ := hp3
      subst es2
      have ghp3 := hp3
      have H1 := ghp3
      refine x_bipush hx hb dX11_lands_4 (by decide) ?_
      refine x_icmp_eq (tgt := 22) hx hb rx1 (by decide) dX11_lands_6 (by decide) (fun c4 => ?_) (fun c4 => ?_)
      · skip
        refine x_aload_n hx hb hl 0 rfl dX11_lands_22 rfl ?_
        refine x_get (j := 19) (v := .ref (h0 + 278)) hx hb hown hT hE hW cls_X11 (Or.inl (by decide)) (so_268 h0 g _) (by decide) rfl wq1204 dX11_lands_23 ?_
        refine x_aload_n hx hb hl 0 rfl dX11_lands_26 rfl ?_
        refine x_get (j := 15) (v := .int (xJ (s_0 268 15))) hx hb hown hT hE hW cls_X11 (Or.inl (by decide)) (so_268 h0 g _) (by decide) rfl wq1200 dX11_lands_27 ?_
        refine x_rd hW (fun x5 ex5 rx5 => ?_)
        have q6 : s_0 268 15 = x5 := ex5.symm
        refine x_iconst hx hb dX11_lands_30 ?_
        refine x_isub hx hb dX11_lands_31 ?_
        refine x_iald hx hb hE hW (Or.inl (by decide)) (sa_278 h0 g _) (by omega) (by decide) dX11_lands_32 ?_
        refine x_rd hW (fun x7 ex7 rx7 => ?_)
        have V32 : x7 = s_0 278 (s_0 268 15 - 1) := by rw [ex7, show (x5 - 1) = s_0 268 15 - 1 from by omega]
        refine lv_ldc (v := xJ 1048576) hx hb hown (hT _ wq1482) dX11_lands_33 ?_
        refine x_irem hx hb rx7 (by decide) (by omega) (by decide) dX11_lands_35 ?_
        refine x_nm (fun x8 ex8 => ?_)
        refine lv_istore_n (lv' := [(2, .int (xJ x8)), (0, .ref (h0 + 268)), (1, .int (xJ x))]) hx hb dX11_lands_36 rfl hl (by decide) rfl (fun ls hl => ?_)
        have V36 : x8 = s_0 278 (s_0 268 15 - 1) % 1048576 := by omega
        refine x_aload_n hx hb hl 1 rfl dX11_lands_37 rfl ?_
        refine x_get (j := 18) (v := .ref (h0 + 277)) hx hb hown hT hE hW cls_X11 (Or.inl (by decide)) (so_268 h0 g _) (by decide) rfl wq1203 dX11_lands_38 ?_
        refine x_iload_n hx hb hl 0 rfl dX11_lands_41 rfl ?_
        refine lv_ldc (v := xJ 1048576) hx hb hown (hT _ wq1482) dX11_lands_42 ?_
        refine x_aload_n hx hb hl 1 rfl dX11_lands_44 rfl ?_
        refine x_get (j := 18) (v := .ref (h0 + 277)) hx hb hown hT hE hW cls_X11 (Or.inl (by decide)) (so_268 h0 g _) (by decide) rfl wq1203 dX11_lands_45 ?_
        refine x_iload_n hx hb hl 0 rfl dX11_lands_48 rfl ?_
        refine x_iald hx hb hE hW (Or.inl (by decide)) (sa_277 h0 g _) (by omega) (by decide) dX11_lands_49 ?_
        refine x_rd hW (fun x9 ex9 rx9 => ?_)
        have V49 : x9 = s_0 277 x8 := by rw [ex9]
        have W49 : s_0 277 x8 / 1048576 = s_0 278 (s_0 268 15 - 1) / 1048576 := by rw [V36]; omega
        refine lv_ldc (v := xJ 1048576) hx hb hown (hT _ wq1482) dX11_lands_50 ?_
        refine x_idiv hx hb rx9 (by decide) (by omega) (by decide) dX11_lands_52 ?_
        refine x_imul hx hb dX11_lands_53 ?_
        refine x_aload_n hx hb hl 1 rfl dX11_lands_54 rfl ?_
        refine x_get (j := 14) (v := .int (xJ (s_0 268 14))) hx hb hown hT hE hW cls_X11 (Or.inl (by decide)) (so_268 h0 g _) (by decide) rfl wq1199 dX11_lands_55 ?_
        refine x_rd hW (fun x10 ex10 rx10 => ?_)
        have fx10 : x10 = s0 268 14 := ex10.trans q0_10
        refine x_iadd hx hb dX11_lands_58 ?_
        refine x_iast hx hb hE hW (by decide) (fun σ => sa_277 h0 g σ) (by omega) (by decide) (by omega) dX11_lands_59 (fun H locs s11 es11 hW => ?_)
        have q12 : IMn s11 := by rw [es11]; exact IMn_o (by unfold suIMn; first | decide | omega) q0_0
        have q13 : IMk s11 := by rw [es11]; exact IMk_o (by unfold suIMk; first | decide | omega) q0_1
        have q14 : IMo s11 := by rw [es11]; exact IMo_o (by unfold suIMo; first | decide | omega) q0_2
        have q15 : IR s11 := by rw [es11]; exact IR_o (by unfold suIR; first | decide | omega) q0_3
        have q16 : s11 268 8 = s0 268 8 := (show s11 268 8 = s_0 268 8 from by rw [es11, xU_k _ _ _ (by first | decide | omega)]).trans q0_4
        have q17 : s11 268 58 = s0 268 58 := (show s11 268 58 = s_0 268 58 from by rw [es11, xU_k _ _ _ (by first | decide | omega)]).trans q0_5
        have q18 : s11 268 17 = s0 268 17 := (show s11 268 17 = s_0 268 17 from by rw [es11, xU_k _ _ _ (by first | decide | omega)]).trans q0_6
        have q19 : s11 268 9 = s0 268 9 := (show s11 268 9 = s_0 268 9 from by rw [es11, xU_k _ _ _ (by first | decide | omega)]).trans q0_7
        have q20 : s11 268 10 = s0 268 10 := (show s11 268 10 = s_0 268 10 from by rw [es11, xU_k _ _ _ (by first | decide | omega)]).trans q0_8
        have q21 : s11 268 13 = s0 268 13 := (show s11 268 13 = s_0 268 13 from by rw [es11, xU_k _ _ _ (by first | decide | omega)]).trans q0_9
        have q22 : s11 268 14 = s0 268 14 := (show s11 268 14 = s_0 268 14 from by rw [es11, xU_k _ _ _ (by first | decide | omega)]).trans q0_10
        have q23 : s11 268 16 = s0 268 16 := (show s11 268 16 = s_0 268 16 from by rw [es11, xU_k _ _ _ (by first | decide | omega)]).trans q0_11
        have q24 : s11 268 48 = s0 268 48 := (show s11 268 48 = s_0 268 48 from by rw [es11, xU_k _ _ _ (by first | decide | omega)]).trans q0_12
        have q25 : s11 268 15 = x5 := (show s11 268 15 = s_0 268 15 from by rw [es11, xU_k _ _ _ (by first | decide | omega)]).trans q6
        have hF26 := hF_0.put es11 (by omega)
        have E59 := es11
        refine x_aload_n hx hb hl 1 rfl dX11_lands_60 rfl ?_
        refine x_aload_n hx hb hl 1 rfl dX11_lands_61 rfl ?_
        refine x_get (j := 15) (v := .int (xJ (s11 268 15))) hx hb hown hT hE hW cls_X11 (Or.inl (by decide)) (so_268 h0 g _) (by decide) rfl wq1200 dX11_lands_62 ?_
        refine x_rd hW (fun x27 ex27 rx27 => ?_)
        have fx27 : x27 = x5 := ex27.trans q25
        refine x_iconst hx hb dX11_lands_65 ?_
        refine x_isub hx hb dX11_lands_66 ?_
        refine x_put (j := 15) hx hb hown hT hE hW cls_X11 (by decide) (fun σ => so_268 h0 g σ) (by decide) (st_X11_15 h0 s11 268 (x27 - 1)) (ln_X11_15 h0 _ _) wq1200 rfl rfl rfl (by omega) dX11_lands_67 (fun H locs s28 es28 hW => ?_)
        have q29 : IMn s28 := by rw [es28]; exact IMn_268 q12 (by omega)
        have q30 : IMk s28 := by rw [es28]; exact IMk_268 q13 (by omega)
        have q31 : IMo s28 := by rw [es28]; exact IMo_o (by unfold suIMo; first | decide | omega) q14
        have q32 : IR s28 := by rw [es28]; exact IR_268 q15 (by omega)
        have q33 : s28 268 8 = s0 268 8 := (show s28 268 8 = s11 268 8 from by rw [es28, xU_j _ _ (by decide)]).trans q16
        have q34 : s28 268 58 = s0 268 58 := (show s28 268 58 = s11 268 58 from by rw [es28, xU_j _ _ (by decide)]).trans q17
        have q35 : s28 268 17 = s0 268 17 := (show s28 268 17 = s11 268 17 from by rw [es28, xU_j _ _ (by decide)]).trans q18
        have q36 : s28 268 9 = s0 268 9 := (show s28 268 9 = s11 268 9 from by rw [es28, xU_j _ _ (by decide)]).trans q19
        have q37 : s28 268 10 = s0 268 10 := (show s28 268 10 = s11 268 10 from by rw [es28, xU_j _ _ (by decide)]).trans q20
        have q38 : s28 268 13 = s0 268 13 := (show s28 268 13 = s11 268 13 from by rw [es28, xU_j _ _ (by decide)]).trans q21
        have q39 : s28 268 14 = s0 268 14 := (show s28 268 14 = s11 268 14 from by rw [es28, xU_j _ _ (by decide)]).trans q22
        have q40 : s28 268 16 = s0 268 16 := (show s28 268 16 = s11 268 16 from by rw [es28, xU_j _ _ (by decide)]).trans q23
        have q41 : s28 268 48 = s0 268 48 := (show s28 268 48 = s11 268 48 from by rw [es28, xU_j _ _ (by decide)]).trans q24
        have q42 : s28 268 15 = (x27 - 1) := by rw [es28, xU_s]
        have hF43 := hF26.put es28 (by omega)
        have E67 := es28
        have X67 := v0_0.land (τ := s28) (k := x8) (v := 1048576 * (s_0 277 x8 / 1048576) + s_0 268 14) (by rw [show s_0 268 9 = s0 268 9 from by omega]; omega) V36 rfl (by omega) (by omega) (by rw [E67, xU_k _ _ _ (by first | decide | omega), E59, xU_xud, ← V49]; congr 1; omega) (by omega) (by omega) (by rw [E67, xU_k _ _ _ (by first | decide | omega), E59, xU_k _ _ _ (by first | decide | omega)])
        refine lv_goto (tgt := 0) hx hb dX11_lands_70 (by decide) ?_
        exact ih0 s28 H locs ls hF43 q29 q30 q31 q32 q33 q34 q35 q36 q37 q38 q39 q40 q41 (X67.1) (by have y := X67.2; omega) (by have hm := hm_0 (); omega) hW (lv_sub hl [1, 2] rfl)
      refine x_iload_n hx hb hl 1 rfl dX11_lands_9 rfl ?_
      refine x_if_eq (tgt := 73) hx hb rx dX11_lands_10 (by decide) (fun c44 => ?_) (fun c44 => ?_)
      · skip
        rw [eQ]
        exact x_vret hx hb hr hlk hW ⟨hF_0, ⟨q0_0, q0_1, q0_2, q0_3, q0_4, q0_5, q0_6, q0_7, q0_8, q0_9, q0_10, q0_11, q0_12, trivial⟩, ⟨v0_0, by omega, by omega⟩⟩ dX11_lands_73
      refine x_aload_n hx hb hl 0 rfl dX11_lands_13 rfl ?_
      refine x_goi (x_runV (As := []) hx hb hml hown hT hE hW hl.1 (Or.inl (by decide)) (so_268 h0 g _) rfl cf_X11_waitTop wq1507 wq123 wq1505 (c_X11_waitTopK l D g T h0 s_0 hW.2.1 (v0_0.wt) q0_0 q0_1 q0_2 q0_3) ⟨rfl, rfl, ⟨by decide, by decide⟩, ⟨by decide, by decide⟩⟩ rfl rfl (Nat.le_of_ble_eq_true rfl) dX11_lands_14) hW (fun x45 s46 H locs rx45 hp47 hW => ?_)
      obtain ⟨es46, hp47⟩ := hp47
      subst es46
      have ghp47 := hp47
      have H14 := ghp47
      refine x_bipush hx hb dX11_lands_17 (by decide) ?_
      refine x_icmp_ne (tgt := 73) hx hb rx45 (by decide) dX11_lands_19 (by decide) (fun c48 => ?_) (fun c48 => ?_)
      · skip
        rw [eQ]
        exact x_vret hx hb hr hlk hW ⟨hF_0, ⟨q0_0, q0_1, q0_2, q0_3, q0_4, q0_5, q0_6, q0_7, q0_8, q0_9, q0_10, q0_11, q0_12, trivial⟩, ⟨v0_0, by omega, by omega⟩⟩ dX11_lands_73
      refine x_aload_n hx hb hl 0 rfl dX11_lands_22 rfl ?_
      refine x_get (j := 19) (v := .ref (h0 + 278)) hx hb hown hT hE hW cls_X11 (Or.inl (by decide)) (so_268 h0 g _) (by decide) rfl wq1204 dX11_lands_23 ?_
      refine x_aload_n hx hb hl 0 rfl dX11_lands_26 rfl ?_
      refine x_get (j := 15) (v := .int (xJ (s_0 268 15))) hx hb hown hT hE hW cls_X11 (Or.inl (by decide)) (so_268 h0 g _) (by decide) rfl wq1200 dX11_lands_27 ?_
      refine x_rd hW (fun x49 ex49 rx49 => ?_)
      have q50 : s_0 268 15 = x49 := ex49.symm
      refine x_iconst hx hb dX11_lands_30 ?_
      refine x_isub hx hb dX11_lands_31 ?_
      refine x_iald hx hb hE hW (Or.inl (by decide)) (sa_278 h0 g _) (by omega) (by decide) dX11_lands_32 ?_
      refine x_rd hW (fun x51 ex51 rx51 => ?_)
      have V32 : x51 = s_0 278 (s_0 268 15 - 1) := by rw [ex51, show (x49 - 1) = s_0 268 15 - 1 from by omega]
      refine lv_ldc (v := xJ 1048576) hx hb hown (hT _ wq1482) dX11_lands_33 ?_
      refine x_irem hx hb rx51 (by decide) (by omega) (by decide) dX11_lands_35 ?_
      refine x_nm (fun x52 ex52 => ?_)
      refine lv_istore_n (lv' := [(2, .int (xJ x52)), (0, .ref (h0 + 268)), (1, .int (xJ x))]) hx hb dX11_lands_36 rfl hl (by decide) rfl (fun ls hl => ?_)
      have V36 : x52 = s_0 278 (s_0 268 15 - 1) % 1048576 := by omega
      refine x_aload_n hx hb hl 1 rfl dX11_lands_37 rfl ?_
      refine x_get (j := 18) (v := .ref (h0 + 277)) hx hb hown hT hE hW cls_X11 (Or.inl (by decide)) (so_268 h0 g _) (by decide) rfl wq1203 dX11_lands_38 ?_
      refine x_iload_n hx hb hl 0 rfl dX11_lands_41 rfl ?_
      refine lv_ldc (v := xJ 1048576) hx hb hown (hT _ wq1482) dX11_lands_42 ?_
      refine x_aload_n hx hb hl 1 rfl dX11_lands_44 rfl ?_
      refine x_get (j := 18) (v := .ref (h0 + 277)) hx hb hown hT hE hW cls_X11 (Or.inl (by decide)) (so_268 h0 g _) (by decide) rfl wq1203 dX11_lands_45 ?_
      refine x_iload_n hx hb hl 0 rfl dX11_lands_48 rfl ?_
      refine x_iald hx hb hE hW (Or.inl (by decide)) (sa_277 h0 g _) (by omega) (by decide) dX11_lands_49 ?_
      refine x_rd hW (fun x53 ex53 rx53 => ?_)
      have V49 : x53 = s_0 277 x52 := by rw [ex53]
      have W49 : s_0 277 x52 / 1048576 = s_0 278 (s_0 268 15 - 1) / 1048576 := by rw [V36]; omega
      refine lv_ldc (v := xJ 1048576) hx hb hown (hT _ wq1482) dX11_lands_50 ?_
      refine x_idiv hx hb rx53 (by decide) (by omega) (by decide) dX11_lands_52 ?_
      refine x_imul hx hb dX11_lands_53 ?_
      refine x_aload_n hx hb hl 1 rfl dX11_lands_54 rfl ?_
      refine x_get (j := 14) (v := .int (xJ (s_0 268 14))) hx hb hown hT hE hW cls_X11 (Or.inl (by decide)) (so_268 h0 g _) (by decide) rfl wq1199 dX11_lands_55 ?_
      refine x_rd hW (fun x54 ex54 rx54 => ?_)
      have fx54 : x54 = s0 268 14 := ex54.trans q0_10
      refine x_iadd hx hb dX11_lands_58 ?_
      refine x_iast hx hb hE hW (by decide) (fun σ => sa_277 h0 g σ) (by omega) (by decide) (by omega) dX11_lands_59 (fun H locs s55 es55 hW => ?_)
      have q56 : IMn s55 := by rw [es55]; exact IMn_o (by unfold suIMn; first | decide | omega) q0_0
      have q57 : IMk s55 := by rw [es55]; exact IMk_o (by unfold suIMk; first | decide | omega) q0_1
      have q58 : IMo s55 := by rw [es55]; exact IMo_o (by unfold suIMo; first | decide | omega) q0_2
      have q59 : IR s55 := by rw [es55]; exact IR_o (by unfold suIR; first | decide | omega) q0_3
      have q60 : s55 268 8 = s0 268 8 := (show s55 268 8 = s_0 268 8 from by rw [es55, xU_k _ _ _ (by first | decide | omega)]).trans q0_4
      have q61 : s55 268 58 = s0 268 58 := (show s55 268 58 = s_0 268 58 from by rw [es55, xU_k _ _ _ (by first | decide | omega)]).trans q0_5
      have q62 : s55 268 17 = s0 268 17 := (show s55 268 17 = s_0 268 17 from by rw [es55, xU_k _ _ _ (by first | decide | omega)]).trans q0_6
      have q63 : s55 268 9 = s0 268 9 := (show s55 268 9 = s_0 268 9 from by rw [es55, xU_k _ _ _ (by first | decide | omega)]).trans q0_7
      have q64 : s55 268 10 = s0 268 10 := (show s55 268 10 = s_0 268 10 from by rw [es55, xU_k _ _ _ (by first | decide | omega)]).trans q0_8
      have q65 : s55 268 13 = s0 268 13 := (show s55 268 13 = s_0 268 13 from by rw [es55, xU_k _ _ _ (by first | decide | omega)]).trans q0_9
      have q66 : s55 268 14 = s0 268 14 := (show s55 268 14 = s_0 268 14 from by rw [es55, xU_k _ _ _ (by first | decide | omega)]).trans q0_10
      have q67 : s55 268 16 = s0 268 16 := (show s55 268 16 = s_0 268 16 from by rw [es55, xU_k _ _ _ (by first | decide | omega)]).trans q0_11
      have q68 : s55 268 48 = s0 268 48 := (show s55 268 48 = s_0 268 48 from by rw [es55, xU_k _ _ _ (by first | decide | omega)]).trans q0_12
      have q69 : s55 268 15 = x49 := (show s55 268 15 = s_0 268 15 from by rw [es55, xU_k _ _ _ (by first | decide | omega)]).trans q50
      have hF70 := hF_0.put es55 (by omega)
      have E59 := es55
      refine x_aload_n hx hb hl 1 rfl dX11_lands_60 rfl ?_
      refine x_aload_n hx hb hl 1 rfl dX11_lands_61 rfl ?_
      refine x_get (j := 15) (v := .int (xJ (s55 268 15))) hx hb hown hT hE hW cls_X11 (Or.inl (by decide)) (so_268 h0 g _) (by decide) rfl wq1200 dX11_lands_62 ?_
      refine x_rd hW (fun x71 ex71 rx71 => ?_)
      have fx71 : x71 = x49 := ex71.trans q69
      refine x_iconst hx hb dX11_lands_65 ?_
      refine x_isub hx hb dX11_lands_66 ?_
      refine x_put (j := 15) hx hb hown hT hE hW cls_X11 (by decide) (fun σ => so_268 h0 g σ) (by decide) (st_X11_15 h0 s55 268 (x71 - 1)) (ln_X11_15 h0 _ _) wq1200 rfl rfl rfl (by omega) dX11_lands_67 (fun H locs s72 es72 hW => ?_)
      have q73 : IMn s72 := by rw [es72]; exact IMn_268 q56 (by omega)
      have q74 : IMk s72 := by rw [es72]; exact IMk_268 q57 (by omega)
      have q75 : IMo s72 := by rw [es72]; exact IMo_o (by unfold suIMo; first | decide | omega) q58
      have q76 : IR s72 := by rw [es72]; exact IR_268 q59 (by omega)
      have q77 : s72 268 8 = s0 268 8 := (show s72 268 8 = s55 268 8 from by rw [es72, xU_j _ _ (by decide)]).trans q60
      have q78 : s72 268 58 = s0 268 58 := (show s72 268 58 = s55 268 58 from by rw [es72, xU_j _ _ (by decide)]).trans q61
      have q79 : s72 268 17 = s0 268 17 := (show s72 268 17 = s55 268 17 from by rw [es72, xU_j _ _ (by decide)]).trans q62
      have q80 : s72 268 9 = s0 268 9 := (show s72 268 9 = s55 268 9 from by rw [es72, xU_j _ _ (by decide)]).trans q63
      have q81 : s72 268 10 = s0 268 10 := (show s72 268 10 = s55 268 10 from by rw [es72, xU_j _ _ (by decide)]).trans q64
      have q82 : s72 268 13 = s0 268 13 := (show s72 268 13 = s55 268 13 from by rw [es72, xU_j _ _ (by decide)]).trans q65
      have q83 : s72 268 14 = s0 268 14 := (show s72 268 14 = s55 268 14 from by rw [es72, xU_j _ _ (by decide)]).trans q66
      have q84 : s72 268 16 = s0 268 16 := (show s72 268 16 = s55 268 16 from by rw [es72, xU_j _ _ (by decide)]).trans q67
      have q85 : s72 268 48 = s0 268 48 := (show s72 268 48 = s55 268 48 from by rw [es72, xU_j _ _ (by decide)]).trans q68
      have q86 : s72 268 15 = (x71 - 1) := by rw [es72, xU_s]
      have hF87 := hF70.put es72 (by omega)
      have E67 := es72
      have X67 := v0_0.land (τ := s72) (k := x52) (v := 1048576 * (s_0 277 x52 / 1048576) + s_0 268 14) (by rw [show s_0 268 9 = s0 268 9 from by omega]; omega) V36 rfl (by omega) (by omega) (by rw [E67, xU_k _ _ _ (by first | decide | omega), E59, xU_xud, ← V49]; congr 1; omega) (by omega) (by omega) (by rw [E67, xU_k _ _ _ (by first | decide | omega), E59, xU_k _ _ _ (by first | decide | omega)])
      refine lv_goto (tgt := 0) hx hb dX11_lands_70 (by decide) ?_
      exact ih0 s72 H locs ls hF87 q73 q74 q75 q76 q77 q78 q79 q80 q81 q82 q83 q84 q85 (X67.1) (by have y := X67.2; omega) (by have hm := hm_0 (); omega) hW (lv_sub hl [1, 2] rfl)
  exact L0 ((s0 268 15 : Int).toNat + 1) s0 H locs ls hF p0 p1 p2 p3 k268_8 k268_58 k268_17 k268_9 k268_10 k268_13 k268_14 k268_16 k268_48 (hz) (hxz.2) (Nat.lt_succ_self _) hW (lv_sub hl [0, 1] rfl)
set_option maxHeartbeats 4000000 in
set_option maxRecDepth 100000 in
theorem c_X11_jumpsK (l : Launch) (D : va_G) (g : xG) (T : Nat × Nat × Nat) (h0 : Nat) (s0 : xS) (hσ : xRR s0) (o : Int) (ro : xR o) (f9 : Int → Int) (n9 : Int) (a9 : Int) (Z : Int × Int × Int × (Int → Int)) (hf : xm8 (s0 276) = f9 ∧ s0 268 10 = n9) (hz : zCQ f9 n9 a9 Z false s0) (ho : (o = 11 ∧ zch f9 n9 (s0 268 9) = 38 ∧ 12 ≤ ztW s0) ∨ (o = 12 ∧ zch f9 n9 (s0 268 9) = 124 ∧ 13 ≤ ztW s0)) (p0 : IMn s0) (p1 : IMk s0) (p2 : IMo s0) (p3 : IR s0) : Met l yX11_jumps (xws yX11_jumps cX11_jumps 2 none) { frames := 1, cells := 0, slots := 0, locals := 22 } (xP [.ref (h0 + 268), .int (xJ o)] D g T h0 s0) (xQv D g h0 (fun τ => xFr (fun k => k = 268 ∨ k = 277 ∨ k = 278) s0 τ ∧ (((IMn τ) ∧ (IMk τ) ∧ (IMo τ) ∧ (IR τ) ∧ (τ 268 8 = s0 268 8) ∧ (τ 268 58 = s0 268 58) ∧ (τ 268 17 = s0 268 17) ∧ (τ 268 10 = s0 268 10) ∧ (τ 268 16 = s0 268 16) ∧ (τ 268 48 = s0 268 48) ∧ True) ∧ (zCQ f9 n9 a9 Z true τ ∧ τ 268 9 = s0 268 9 + 1)))) 0 0 (xA h0) := by
  refine x_met hσ (by decide) (Nat.le_of_ble_eq_true rfl) ?_
  intro p e s m args below meth c hx hb hr hml hown hT hlk hnm hE hW ls hl
  have hl : lv_has ls 2 [(0, .ref (h0 + 268)), (1, .int (xJ o))] := hl
  obtain ⟨Q, eQ⟩ : ∃ Q, Q = MQ below (xQv D g h0 (fun τ => xFr (fun k => k = 268 ∨ k = 277 ∨ k = 278) s0 τ ∧ (((IMn τ) ∧ (IMk τ) ∧ (IMo τ) ∧ (IR τ) ∧ (τ 268 8 = s0 268 8) ∧ (τ 268 58 = s0 268 58) ∧ (τ 268 17 = s0 268 17) ∧ (τ 268 10 = s0 268 10) ∧ (τ 268 16 = s0 268 16) ∧ (τ 268 48 = s0 268 48) ∧ True) ∧ (zCQ f9 n9 a9 Z true τ ∧ τ 268 9 = s0 268 9 + 1)))) args s 0 0 (xA h0) := ⟨_, rfl⟩
  rw [← eQ]
  generalize hHe : ([] : List Loc) = locs at hW ⊢
  obtain ⟨H, eH⟩ : ∃ H, H = s.heap := ⟨_, rfl⟩
  rw [← eH] at hW ⊢
  have hF : xFr (fun k => k = 268 ∨ k = 277 ∨ k = 278) s0 s0 := xFr.rf
  have k268_8 : s0 268 8 = s0 268 8 := rfl
  have k268_58 : s0 268 58 = s0 268 58 := rfl
  have k268_17 : s0 268 17 = s0 268 17 := rfl
  have k268_10 : s0 268 10 = s0 268 10 := rfl
  have k268_16 : s0 268 16 = s0 268 16 := rfl
  have k268_48 : s0 268 48 = s0 268 48 := rfl
  have k268_9 : s0 268 9 = s0 268 9 := rfl
  have k268_13 : s0 268 13 = s0 268 13 := rfl
  have k268_14 : s0 268 14 = s0 268 14 := rfl
  have k268_15 : s0 268 15 = s0 268 15 := rfl
  have hf2 := hf.2
  have b0 := hz.b
  have o0 := hz.o
  have l0 := zch_lt (f := f9) (n := n9) (p := s0 268 9) (by omega)
  refine x_aload_n hx hb hl 0 rfl dX11_jumps_0 rfl ?_
  refine x_get (j := 19) (v := .ref (h0 + 278)) hx hb hown hT hE hW cls_X11 (Or.inl (by decide)) (so_268 h0 g _) (by decide) rfl wq1204 dX11_jumps_1 ?_
  refine x_aload_n hx hb hl 0 rfl dX11_jumps_4 rfl ?_
  refine x_get (j := 15) (v := .int (xJ (s0 268 15))) hx hb hown hT hE hW cls_X11 (Or.inl (by decide)) (so_268 h0 g _) (by decide) rfl wq1200 dX11_jumps_5 ?_
  refine x_rd hW (fun x1 ex1 rx1 => ?_)
  have fx1 : x1 = s0 268 15 := ex1.trans k268_15
  refine lv_ldc (v := xJ 1048576) hx hb hown (hT _ wq1482) dX11_jumps_8 ?_
  refine x_iload_n hx hb hl 1 rfl dX11_jumps_10 rfl ?_
  refine x_imul hx hb dX11_jumps_11 ?_
  refine x_aload_n hx hb hl 0 rfl dX11_jumps_12 rfl ?_
  refine x_get (j := 14) (v := .int (xJ (s0 268 14))) hx hb hown hT hE hW cls_X11 (Or.inl (by decide)) (so_268 h0 g _) (by decide) rfl wq1199 dX11_jumps_13 ?_
  refine x_rd hW (fun x2 ex2 rx2 => ?_)
  have fx2 : x2 = s0 268 14 := ex2.trans k268_14
  refine x_iadd hx hb dX11_jumps_16 ?_
  refine x_iast hx hb hE hW (by decide) (fun σ => sa_278 h0 g σ) (by omega) (by decide) (by omega) dX11_jumps_17 (fun H locs s3 es3 hW => ?_)
  have q4 : IMn s3 := by rw [es3]; exact IMn_o (by unfold suIMn; first | decide | omega) p0
  have q5 : IMk s3 := by rw [es3]; exact IMk_o (by unfold suIMk; first | decide | omega) p1
  have q6 : IMo s3 := by rw [es3]; exact IMo_o (by unfold suIMo; first | decide | omega) p2
  have q7 : IR s3 := by rw [es3]; exact IR_o (by unfold suIR; first | decide | omega) p3
  have q8 : s3 268 8 = s0 268 8 := (show s3 268 8 = s0 268 8 from by rw [es3, xU_k _ _ _ (by first | decide | omega)]).trans k268_8
  have q9 : s3 268 58 = s0 268 58 := (show s3 268 58 = s0 268 58 from by rw [es3, xU_k _ _ _ (by first | decide | omega)]).trans k268_58
  have q10 : s3 268 17 = s0 268 17 := (show s3 268 17 = s0 268 17 from by rw [es3, xU_k _ _ _ (by first | decide | omega)]).trans k268_17
  have q11 : s3 268 10 = s0 268 10 := (show s3 268 10 = s0 268 10 from by rw [es3, xU_k _ _ _ (by first | decide | omega)]).trans k268_10
  have q12 : s3 268 16 = s0 268 16 := (show s3 268 16 = s0 268 16 from by rw [es3, xU_k _ _ _ (by first | decide | omega)]).trans k268_16
  have q13 : s3 268 48 = s0 268 48 := (show s3 268 48 = s0 268 48 from by rw [es3, xU_k _ _ _ (by first | decide | omega)]).trans k268_48
  have q14 : s3 268 9 = s0 268 9 := (show s3 268 9 = s0 268 9 from by rw [es3, xU_k _ _ _ (by first | decide | omega)]).trans k268_9
  have q15 : s3 268 13 = s0 268 13 := (show s3 268 13 = s0 268 13 from by rw [es3, xU_k _ _ _ (by first | decide | omega)]).trans k268_13
  have q16 : s3 268 14 = s0 268 14 := (show s3 268 14 = s0 268 14 from by rw [es3, xU_k _ _ _ (by first | decide | omega)]).trans k268_14
  have q17 : s3 268 15 = s0 268 15 := (show s3 268 15 = s0 268 15 from by rw [es3, xU_k _ _ _ (by first | decide | omega)]).trans k268_15
  have hF18 := hF.put es3 (by omega)
  have E17 := es3
  have I17 : x1 = s0 268 15 := by omega
  have W17 : ((1048576 * o) + x2) = 1048576 * o + s0 268 14 := by omega
  refine x_aload_n hx hb hl 0 rfl dX11_jumps_18 rfl ?_
  refine x_aload_n hx hb hl 0 rfl dX11_jumps_19 rfl ?_
  refine x_get (j := 15) (v := .int (xJ (s3 268 15))) hx hb hown hT hE hW cls_X11 (Or.inl (by decide)) (so_268 h0 g _) (by decide) rfl wq1200 dX11_jumps_20 ?_
  refine x_rd hW (fun x19 ex19 rx19 => ?_)
  have fx19 : x19 = s0 268 15 := ex19.trans q17
  refine x_iconst hx hb dX11_jumps_23 ?_
  refine x_iadd hx hb dX11_jumps_24 ?_
  refine x_put (j := 15) hx hb hown hT hE hW cls_X11 (by decide) (fun σ => so_268 h0 g σ) (by decide) (st_X11_15 h0 s3 268 (x19 + 1)) (ln_X11_15 h0 _ _) wq1200 rfl rfl rfl (by omega) dX11_jumps_25 (fun H locs s20 es20 hW => ?_)
  have q21 : IMn s20 := by rw [es20]; exact IMn_268 q4 (by omega)
  have q22 : IMk s20 := by rw [es20]; exact IMk_268 q5 (by omega)
  have q23 : IMo s20 := by rw [es20]; exact IMo_o (by unfold suIMo; first | decide | omega) q6
  have q24 : IR s20 := by rw [es20]; exact IR_268 q7 (by omega)
  have q25 : s20 268 8 = s0 268 8 := (show s20 268 8 = s3 268 8 from by rw [es20, xU_j _ _ (by decide)]).trans q8
  have q26 : s20 268 58 = s0 268 58 := (show s20 268 58 = s3 268 58 from by rw [es20, xU_j _ _ (by decide)]).trans q9
  have q27 : s20 268 17 = s0 268 17 := (show s20 268 17 = s3 268 17 from by rw [es20, xU_j _ _ (by decide)]).trans q10
  have q28 : s20 268 10 = s0 268 10 := (show s20 268 10 = s3 268 10 from by rw [es20, xU_j _ _ (by decide)]).trans q11
  have q29 : s20 268 16 = s0 268 16 := (show s20 268 16 = s3 268 16 from by rw [es20, xU_j _ _ (by decide)]).trans q12
  have q30 : s20 268 48 = s0 268 48 := (show s20 268 48 = s3 268 48 from by rw [es20, xU_j _ _ (by decide)]).trans q13
  have q31 : s20 268 9 = s0 268 9 := (show s20 268 9 = s3 268 9 from by rw [es20, xU_j _ _ (by decide)]).trans q14
  have q32 : s20 268 13 = s0 268 13 := (show s20 268 13 = s3 268 13 from by rw [es20, xU_j _ _ (by decide)]).trans q15
  have q33 : s20 268 14 = s0 268 14 := (show s20 268 14 = s3 268 14 from by rw [es20, xU_j _ _ (by decide)]).trans q16
  have q34 : s20 268 15 = (x19 + 1) := by rw [es20, xU_s]
  have hF35 := hF18.put es20 (by omega)
  have E25 := es20
  refine x_aload_n hx hb hl 0 rfl dX11_jumps_28 rfl ?_
  refine x_iload_n hx hb hl 1 rfl dX11_jumps_29 rfl ?_
  refine x_iconst hx hb dX11_jumps_30 ?_
  refine x_gov (x_runV (As := [.int (xJ o), .int (xJ 0)]) hx hb hml hown hT hE hW hl.1 (Or.inl (by decide)) (so_268 h0 g _) rfl cf_X11_notes wq1493 wq121 wq1491 (c_X11_notesK l D g T h0 s20 hW.2.1 o ro 0 (by decide) (by omega) (by omega) (by omega) q21 q22 q23 q24) ⟨rfl, rfl, ⟨by decide, by decide⟩, ⟨by decide, by decide⟩⟩ rfl rfl (Nat.le_of_ble_eq_true rfl) dX11_jumps_31) hW (fun s37 H locs hp38 hW => ?_)
  obtain ⟨fs37, hp38⟩ := hp38
  have hF39 := hF35.call fs37 (fun k h => by omega)
  have ghp38 := hp38.2
  have H31 := ghp38
  have F31 := fs37
  refine x_aload_n hx hb hl 0 rfl dX11_jumps_34 rfl ?_
  refine x_aload_n hx hb hl 0 rfl dX11_jumps_35 rfl ?_
  refine x_get (j := 9) (v := .int (xJ (s37 268 9))) hx hb hown hT hE hW cls_X11 (Or.inl (by decide)) (so_268 h0 g _) (by decide) rfl wq1194 dX11_jumps_36 ?_
  refine x_rd hW (fun x40 ex40 rx40 => ?_)
  have bx40 : 0 ≤ x40 ∧ x40 ≤ s37 268 10 ∧ s37 268 10 ≤ 240 := by rw [ex40]; exact hp38.1.2.2.2.1
  have fx40 : x40 = s0 268 9 := ex40.trans (hp38.1.2.2.2.2.2.2.2.1.trans q31)
  refine x_iconst hx hb dX11_jumps_39 ?_
  refine x_iadd hx hb dX11_jumps_40 ?_
  refine x_put (j := 9) hx hb hown hT hE hW cls_X11 (by decide) (fun σ => so_268 h0 g σ) (by decide) (st_X11_9 h0 s37 268 (x40 + 1)) (ln_X11_9 h0 _ _) wq1194 rfl rfl rfl (by omega) dX11_jumps_41 (fun H locs s41 es41 hW => ?_)
  have q42 : IMn s41 := by rw [es41]; exact IMn_268 hp38.1.1 (by omega)
  have q43 : IMk s41 := by rw [es41]; exact IMk_268 hp38.1.2.1 (by omega)
  have q44 : IMo s41 := by rw [es41]; exact IMo_o (by unfold suIMo; first | decide | omega) hp38.1.2.2.1
  have q45 : IR s41 := by rw [es41]; exact IR_268 hp38.1.2.2.2.1 (by omega)
  have q46 : s41 268 8 = s0 268 8 := (show s41 268 8 = s37 268 8 from by rw [es41, xU_j _ _ (by decide)]).trans (hp38.1.2.2.2.2.1.trans q25)
  have q47 : s41 268 58 = s0 268 58 := (show s41 268 58 = s37 268 58 from by rw [es41, xU_j _ _ (by decide)]).trans (hp38.1.2.2.2.2.2.1.trans q26)
  have q48 : s41 268 17 = s0 268 17 := (show s41 268 17 = s37 268 17 from by rw [es41, xU_j _ _ (by decide)]).trans (hp38.1.2.2.2.2.2.2.1.trans q27)
  have q49 : s41 268 9 = (x40 + 1) := by rw [es41, xU_s]
  have q50 : s41 268 10 = s0 268 10 := (show s41 268 10 = s37 268 10 from by rw [es41, xU_j _ _ (by decide)]).trans (hp38.1.2.2.2.2.2.2.2.2.1.trans q28)
  have q51 : s41 268 13 = s0 268 13 := (show s41 268 13 = s37 268 13 from by rw [es41, xU_j _ _ (by decide)]).trans (hp38.1.2.2.2.2.2.2.2.2.2.1.trans q32)
  have q52 : s41 268 15 = (x19 + 1) := (show s41 268 15 = s37 268 15 from by rw [es41, xU_j _ _ (by decide)]).trans (hp38.1.2.2.2.2.2.2.2.2.2.2.1.trans q34)
  have q53 : s41 268 16 = s0 268 16 := (show s41 268 16 = s37 268 16 from by rw [es41, xU_j _ _ (by decide)]).trans (hp38.1.2.2.2.2.2.2.2.2.2.2.2.1.trans q29)
  have q54 : s41 268 48 = s0 268 48 := (show s41 268 48 = s37 268 48 from by rw [es41, xU_j _ _ (by decide)]).trans (hp38.1.2.2.2.2.2.2.2.2.2.2.2.2.1.trans q30)
  have hF55 := hF39.put es41 (by omega)
  have E41 := es41
  rw [eQ]
  exact x_vret hx hb hr hlk hW ⟨hF55, ⟨q42, q43, q44, q45, q46, q47, q48, q50, q53, q54, trivial⟩, ⟨hz.jump (v := 1048576 * o + s0 268 14) ho rfl rfl (by omega) (by rw [E41, xU_j _ _ (by decide), H31.2, E25, xU_j _ _ (by decide), E17, xU_k _ _ _ (by first | decide | omega)]) (by rw [E41, xU_k _ _ _ (by first | decide | omega), H31.1, E25, xU_k _ _ _ (by first | decide | omega), xU_j _ _ (by decide), E17, xU_k _ _ _ (by first | decide | omega), xU_k _ _ _ (by first | decide | omega), Int.add_zero]) (by omega) (by omega) (by rw [E41, xU_k _ _ _ (by first | decide | omega), F31 278 (by omega), E25, xU_k _ _ _ (by first | decide | omega), E17, xU_xud, I17, W17]), by omega⟩⟩ dX11_jumps_44
set_option maxHeartbeats 4000000 in
set_option maxRecDepth 100000 in
theorem c_X11_readsComparedK (l : Launch) (D : va_G) (g : xG) (T : Nat × Nat × Nat) (h0 : Nat) (s0 : xS) (hσ : xRR s0) (f9 : Int → Int) (n9 : Int) (a9 : Int) (Z : Int × Int × Int × (Int → Int)) (hf : xm8 (s0 276) = f9 ∧ s0 268 10 = n9) (hz : zCQ f9 n9 a9 Z true s0) (hc : zch f9 n9 (s0 268 9) ≠ 33 ∧ zch f9 n9 (s0 268 9) ≠ 40) (p0 : IMn s0) (p1 : IMk s0) (p2 : IMo s0) (p3 : IR s0) : Met l yX11_readsCompared (xws yX11_readsCompared cX11_readsCompared 2 (some .boolean)) { frames := 5, cells := 0, slots := 0, locals := 104 } (xP [.ref (h0 + 268)] D g T h0 s0) (xQi D g h0 (fun r τ => xFr (fun k => k = 268 ∨ k = 277 ∨ k = 278) s0 τ ∧ (((IMn τ) ∧ (IMk τ) ∧ (IMo τ) ∧ (IR τ) ∧ (τ 268 8 = s0 268 8) ∧ (τ 268 58 = s0 268 58) ∧ (τ 268 17 = s0 268 17) ∧ (τ 268 10 = s0 268 10) ∧ (τ 268 16 = s0 268 16) ∧ (τ 268 48 = s0 268 48) ∧ True) ∧ ((r = 0 ∧ Z.1 ≠ 0 ∧ τ 268 11 = Z.1) ∨ (r = 1 ∧ zCQ f9 n9 a9 Z false τ ∧ ztW τ ≠ 10 ∧ 0 < τ 268 15 ∧ s0 268 9 + 1 ≤ τ 268 9))))) 0 0 (xA h0) := by
  refine x_met hσ (by decide) (Nat.le_of_ble_eq_true rfl) ?_
  intro p e s m args below meth c hx hb hr hml hown hT hlk hnm hE hW ls hl
  have hl : lv_has ls 2 [(0, .ref (h0 + 268))] := hl
  obtain ⟨Q, eQ⟩ : ∃ Q, Q = MQ below (xQi D g h0 (fun r τ => xFr (fun k => k = 268 ∨ k = 277 ∨ k = 278) s0 τ ∧ (((IMn τ) ∧ (IMk τ) ∧ (IMo τ) ∧ (IR τ) ∧ (τ 268 8 = s0 268 8) ∧ (τ 268 58 = s0 268 58) ∧ (τ 268 17 = s0 268 17) ∧ (τ 268 10 = s0 268 10) ∧ (τ 268 16 = s0 268 16) ∧ (τ 268 48 = s0 268 48) ∧ True) ∧ ((r = 0 ∧ Z.1 ≠ 0 ∧ τ 268 11 = Z.1) ∨ (r = 1 ∧ zCQ f9 n9 a9 Z false τ ∧ ztW τ ≠ 10 ∧ 0 < τ 268 15 ∧ s0 268 9 + 1 ≤ τ 268 9))))) args s 0 0 (xA h0) := ⟨_, rfl⟩
  rw [← eQ]
  generalize hHe : ([] : List Loc) = locs at hW ⊢
  obtain ⟨H, eH⟩ : ∃ H, H = s.heap := ⟨_, rfl⟩
  rw [← eH] at hW ⊢
  have hF : xFr (fun k => k = 268 ∨ k = 277 ∨ k = 278) s0 s0 := xFr.rf
  have k268_8 : s0 268 8 = s0 268 8 := rfl
  have k268_58 : s0 268 58 = s0 268 58 := rfl
  have k268_17 : s0 268 17 = s0 268 17 := rfl
  have k268_10 : s0 268 10 = s0 268 10 := rfl
  have k268_16 : s0 268 16 = s0 268 16 := rfl
  have k268_48 : s0 268 48 = s0 268 48 := rfl
  have k268_9 : s0 268 9 = s0 268 9 := rfl
  have k268_13 : s0 268 13 = s0 268 13 := rfl
  have k268_14 : s0 268 14 = s0 268 14 := rfl
  have k268_15 : s0 268 15 = s0 268 15 := rfl
  have hf2 := hf.2
  have b0 := hz.b
  have o0 := hz.o
  have w0 := hz.ne
  refine x_aload_n hx hb hl 0 rfl dX11_readsCompared_0 rfl ?_
  refine x_goi (x_runV (As := []) hx hb hml hown hT hE hW hl.1 (Or.inl (by decide)) (so_268 h0 g _) rfl cf_X11_readsSum wq1472 wq116 wq1470 (c_X11_readsSumK l D g T h0 s0 hW.2.1 f9 n9 (s0 268 13) (znN (zls (s0 278) 0 (s0 268 15 - 0).toNat)) (by first | exact hf | exact ⟨by rw [hF 276 (by omega)]; exact hf.1, by omega⟩) (by omega) (by omega) (hz.hb) p0 p1 p2 p3) ⟨rfl, rfl, ⟨by decide, by decide⟩, ⟨by decide, by decide⟩⟩ rfl rfl (Nat.le_of_ble_eq_true rfl) dX11_readsCompared_1) hW (fun x1 s2 H locs rx1 hp3 hW => ?_)
  obtain ⟨fs2, hp3⟩ := hp3
  have hF4 := hF.call fs2 (fun k h => by omega)
  have ghp3 := hp3.2
  have H1 := ghp3
  refine x_if_ne (tgt := 9) hx hb rx1 dX11_readsCompared_4 (by decide) (fun c5 => ?_) (fun c5 => ?_)
  · skip
    refine x_aload_n hx hb hl 0 rfl dX11_readsCompared_9 rfl ?_
    refine x_goi (x_runV (As := []) hx hb hml hown hT hE hW hl.1 (Or.inl (by decide)) (so_268 h0 g _) rfl cf_X11_here wq1391 wq106 wq1389 (c_X11_here l D g T h0 s2 hW.2.1 hp3.1.1 hp3.1.2.1 hp3.1.2.2.1 hp3.1.2.2.2.1) ⟨rfl, rfl, ⟨by decide, by decide⟩, ⟨by decide, by decide⟩⟩ rfl rfl (Nat.le_of_ble_eq_true rfl) dX11_readsCompared_10) hW (fun x6 s7 H locs rx6 hp8 hW => ?_)
    obtain ⟨es7, hp8⟩ := hp8
    subst es7
    have ghp8 := hp8
    have h1 := (H1.resolve_left (fun q => by omega)).2
    obtain ⟨p1, ep1⟩ : ∃ p : Int, p = s2 268 9 := ⟨_, rfl⟩
    obtain ⟨q1, eq1⟩ : ∃ p : Int, p = s2 268 14 := ⟨_, rfl⟩
    obtain ⟨K1, eK1⟩ : ∃ K, K = s2 277 := ⟨_, rfl⟩
    have e1 := h1.1
    rw [← ep1, ← eq1, ← eK1] at e1
    have C10 : x6 = zch f9 n9 (s2 268 9) := by
      have q8 := ghp8.1
      rw [zhC_ch, show s2 276 = s0 276 from hF4 276 (by first | decide | omega), hf.1, show s2 268 10 = n9 from by omega] at q8
      exact q8
    rw [← ep1] at C10
    have Z10 := zcp_cs (zch f9 n9 p1)
    have L10 : zch f9 n9 p1 ≠ -1 → p1 < n9 := zch_lt
    refine x_bipush hx hb dX11_readsCompared_13 (by decide) ?_
    have J52 : ∀ (t0_52 : Int) (H : Heap) (locs : List Loc) (ls : Array Slot), (xR t0_52) → (t0_52 = zcp (zch f9 n9 p1)) → xW D g h0 s H locs s2 → lv_has ls 2 [(0, .ref (h0 + 268))] → W p l e { frames := 5, cells := 0, slots := 0, locals := 104 } s m args below meth c H locs 0 0 Q (F0 m 52 ls [.int (xJ t0_52)]) := by
      intro t0_52 H locs ls rt0_52 v52_0 hW hl
      refine lv_istore_n (lv' := [(1, .int (xJ t0_52)), (0, .ref (h0 + 268))]) hx hb dX11_readsCompared_52 rfl hl (by decide) rfl (fun ls hl => ?_)
      refine x_iload_n hx hb hl 0 rfl dX11_readsCompared_53 rfl ?_
      refine x_iconst hx hb dX11_readsCompared_54 ?_
      refine x_icmp_ne (tgt := 68) hx hb rt0_52 (by decide) dX11_readsCompared_55 (by decide) (fun c9 => ?_) (fun c9 => ?_)
      · skip
        refine x_aload_n hx hb hl 1 rfl dX11_readsCompared_68 rfl ?_
        refine x_aload_n hx hb hl 1 rfl dX11_readsCompared_69 rfl ?_
        refine x_get (j := 9) (v := .int (xJ (s2 268 9))) hx hb hown hT hE hW cls_X11 (Or.inl (by decide)) (so_268 h0 g _) (by decide) rfl wq1194 dX11_readsCompared_70 ?_
        refine x_rd hW (fun x10 ex10 rx10 => ?_)
        have bx10 : 0 ≤ x10 ∧ x10 ≤ s2 268 10 ∧ s2 268 10 ≤ 240 := by rw [ex10]; exact hp3.1.2.2.2.1
        have q11 : s2 268 9 = x10 := ex10.symm
        refine x_iconst hx hb dX11_readsCompared_73 ?_
        refine x_iadd hx hb dX11_readsCompared_74 ?_
        refine x_put (j := 9) hx hb hown hT hE hW cls_X11 (by decide) (fun σ => so_268 h0 g σ) (by decide) (st_X11_9 h0 s2 268 (x10 + 1)) (ln_X11_9 h0 _ _) wq1194 rfl rfl rfl (by omega) dX11_readsCompared_75 (fun H locs s12 es12 hW => ?_)
        have q13 : IMn s12 := by rw [es12]; exact IMn_268 hp3.1.1 (by omega)
        have q14 : IMk s12 := by rw [es12]; exact IMk_268 hp3.1.2.1 (by omega)
        have q15 : IMo s12 := by rw [es12]; exact IMo_o (by unfold suIMo; first | decide | omega) hp3.1.2.2.1
        have q16 : IR s12 := by rw [es12]; exact IR_268 hp3.1.2.2.2.1 (by omega)
        have q17 : s12 268 8 = s0 268 8 := (show s12 268 8 = s2 268 8 from by rw [es12, xU_j _ _ (by decide)]).trans (hp3.1.2.2.2.2.1.trans k268_8)
        have q18 : s12 268 58 = s0 268 58 := (show s12 268 58 = s2 268 58 from by rw [es12, xU_j _ _ (by decide)]).trans (hp3.1.2.2.2.2.2.1.trans k268_58)
        have q19 : s12 268 17 = s0 268 17 := (show s12 268 17 = s2 268 17 from by rw [es12, xU_j _ _ (by decide)]).trans (hp3.1.2.2.2.2.2.2.1.trans k268_17)
        have q20 : s12 268 10 = s0 268 10 := (show s12 268 10 = s2 268 10 from by rw [es12, xU_j _ _ (by decide)]).trans (hp3.1.2.2.2.2.2.2.2.1.trans k268_10)
        have q21 : s12 268 16 = s0 268 16 := (show s12 268 16 = s2 268 16 from by rw [es12, xU_j _ _ (by decide)]).trans (hp3.1.2.2.2.2.2.2.2.2.1.trans k268_16)
        have q22 : s12 268 48 = s0 268 48 := (show s12 268 48 = s2 268 48 from by rw [es12, xU_j _ _ (by decide)]).trans (hp3.1.2.2.2.2.2.2.2.2.2.1.trans k268_48)
        have q23 : s12 268 9 = (x10 + 1) := by rw [es12, xU_s]
        have hF24 := hF4.put es12 (by omega)
        have E75 := es12
        have R75 : s12 268 13 = s0 268 13 ∧ s12 268 15 = s0 268 15 := ⟨by rw [E75, xU_j _ _ (by decide)]; exact h1.2.2.2.1, by rw [E75, xU_j _ _ (by decide)]; exact h1.2.2.1⟩
        have Q75 : s12 268 9 = p1 + 1 ∧ s12 268 14 = q1 ∧ s12 277 = K1 := ⟨by omega, by rw [E75, xU_j _ _ (by decide)]; exact eq1.symm, by rw [E75, xU_k _ _ _ (by first | decide | omega)]; exact eK1.symm⟩
        refine x_aload_n hx hb hl 1 rfl dX11_readsCompared_78 rfl ?_
        refine x_goi (x_runV (As := []) hx hb hml hown hT hE hW hl.1 (Or.inl (by decide)) (so_268 h0 g _) rfl cf_X11_readsSum wq1472 wq116 wq1470 (c_X11_readsSumK l D g T h0 s12 hW.2.1 f9 n9 (s0 268 13) ((znN (zls (s0 278) 0 (s0 268 15 - 0).toNat)) + 1) (by first | exact hf | exact ⟨by rw [hF24 276 (by first | decide | omega)]; exact hf.1, by omega⟩) (by omega) (by omega) (by rw [show s12 268 15 = s0 268 15 from by omega]; exact hz.hb.elim Or.inl (fun q => Or.inr (by rw [E75, xU_k _ _ _ (by first | decide | omega), h1.2.2.2.2.1 _ (by omega)]; exact q))) q13 q14 q15 q16) ⟨rfl, rfl, ⟨by decide, by decide⟩, ⟨by decide, by decide⟩⟩ rfl rfl (Nat.le_of_ble_eq_true rfl) dX11_readsCompared_79) hW (fun x25 s26 H locs rx25 hp27 hW => ?_)
        obtain ⟨fs26, hp27⟩ := hp27
        have hF28 := hF24.call fs26 (fun k h => by omega)
        have ghp27 := hp27.2
        have H79 := ghp27
        have H79 := ghp27
        obtain ⟨p2, ep2⟩ : ∃ p : Int, p = s26 268 9 := ⟨_, rfl⟩
        refine x_if_ne (tgt := 87) hx hb rx25 dX11_readsCompared_82 (by decide) (fun c29 => ?_) (fun c29 => ?_)
        · skip
          refine x_aload_n hx hb hl 1 rfl dX11_readsCompared_87 rfl ?_
          have h2 := (H79.resolve_left (fun q => by omega)).2
          have r87 : 0 ≤ s26 268 9 ∧ s26 268 9 ≤ s26 268 10 ∧ s26 268 10 ≤ 240 := hp27.1.2.2.2.1
          refine x_iload_n hx hb hl 0 rfl dX11_readsCompared_88 rfl ?_
          refine x_iconst hx hb dX11_readsCompared_89 ?_
          refine x_gov (x_runV (As := [.int (xJ t0_52), .int (xJ 0)]) hx hb hml hown hT hE hW hl.1 (Or.inl (by decide)) (so_268 h0 g _) rfl cf_X11_notes wq1493 wq121 wq1491 (c_X11_notesK l D g T h0 s26 hW.2.1 t0_52 rt0_52 0 (by decide) (by omega) (by omega) (by omega) hp27.1.1 hp27.1.2.1 hp27.1.2.2.1 hp27.1.2.2.2.1) ⟨rfl, rfl, ⟨by decide, by decide⟩, ⟨by decide, by decide⟩⟩ rfl rfl (Nat.le_of_ble_eq_true rfl) dX11_readsCompared_90) hW (fun s31 H locs hp32 hW => ?_)
          obtain ⟨fs31, hp32⟩ := hp32
          have hF33 := hF28.call fs31 (fun k h => by omega)
          have ghp32 := hp32.2
          have H90 := ghp32
          have F90 := fs31
          have e2 := h2.1
          rw [Q75.1, Q75.2.1, Q75.2.2] at e2
          have X90 : zCQ f9 n9 a9 Z false s31 := hz.cmp hc e1 (by omega) e2 (by omega) (fun k hk => by rw [h2.2.2.2.2.2.2.2.2 k (by omega), E75, xU_k _ _ _ (by first | decide | omega)]; exact h1.2.2.2.2.2.2.2.2 k hk) rfl (by omega) (by omega) (by rw [H90.1]; congr 1; omega) (by omega) (by omega) (fun i hi => by rw [F90 278 (by omega), h2.2.2.2.2.1 i (by omega), E75, xU_k _ _ _ (by first | decide | omega)]; exact h1.2.2.2.2.1 i hi)
          refine x_aload_n hx hb hl 1 rfl dX11_readsCompared_93 rfl ?_
          refine x_gov (x_runV (As := []) hx hb hml hown hT hE hW hl.1 (Or.inl (by decide)) (so_268 h0 g _) rfl cf_X11_endsPiece wq1523 wq127 wq1521 (c_X11_endsPieceK l D g T h0 s31 hW.2.1 f9 n9 a9 Z (by first | exact hf | exact ⟨by rw [hF33 276 (by first | decide | omega)]; exact hf.1, by omega⟩) (X90) (by omega) hp32.1.1 hp32.1.2.1 hp32.1.2.2.1 hp32.1.2.2.2.1) ⟨rfl, rfl, ⟨by decide, by decide⟩, ⟨by decide, by decide⟩⟩ rfl rfl (Nat.le_of_ble_eq_true rfl) dX11_readsCompared_94) hW (fun s35 H locs hp36 hW => ?_)
          obtain ⟨fs35, hp36⟩ := hp36
          have hF37 := hF33.call fs35 (fun k h => by omega)
          have ghp36 := hp36.2
          have H94 := ghp36
          refine x_iconst hx hb dX11_readsCompared_97 ?_
          rw [eQ]
          exact x_zret hx hb hr hlk hW (by omega) ⟨hF37, ⟨hp36.1.1, hp36.1.2.1, hp36.1.2.2.1, hp36.1.2.2.2.1, (hp36.1.2.2.2.2.1.trans (hp32.1.2.2.2.2.1.trans (hp27.1.2.2.2.2.1.trans q17))), (hp36.1.2.2.2.2.2.1.trans (hp32.1.2.2.2.2.2.1.trans (hp27.1.2.2.2.2.2.1.trans q18))), (hp36.1.2.2.2.2.2.2.1.trans (hp32.1.2.2.2.2.2.2.1.trans (hp27.1.2.2.2.2.2.2.1.trans q19))), (hp36.1.2.2.2.2.2.2.2.2.1.trans (hp32.1.2.2.2.2.2.2.2.2.1.trans (hp27.1.2.2.2.2.2.2.2.1.trans q20))), (hp36.1.2.2.2.2.2.2.2.2.2.1.trans (hp32.1.2.2.2.2.2.2.2.2.2.2.2.1.trans (hp27.1.2.2.2.2.2.2.2.2.1.trans q21))), (hp36.1.2.2.2.2.2.2.2.2.2.2.1.trans (hp32.1.2.2.2.2.2.2.2.2.2.2.2.2.1.trans (hp27.1.2.2.2.2.2.2.2.2.2.1.trans q22))), trivial⟩, Or.inr ⟨by omega, H94.1, H94.2.1, H94.2.2, by omega⟩⟩ dX11_readsCompared_98
        refine x_iconst hx hb dX11_readsCompared_85 ?_
        rw [eQ]
        exact x_zret hx hb hr hlk hW (by omega) ⟨hF28, ⟨hp27.1.1, hp27.1.2.1, hp27.1.2.2.1, hp27.1.2.2.2.1, (hp27.1.2.2.2.2.1.trans q17), (hp27.1.2.2.2.2.2.1.trans q18), (hp27.1.2.2.2.2.2.2.1.trans q19), (hp27.1.2.2.2.2.2.2.2.1.trans q20), (hp27.1.2.2.2.2.2.2.2.2.1.trans q21), (hp27.1.2.2.2.2.2.2.2.2.2.1.trans q22), trivial⟩, by
            have e := H79.resolve_right (fun q => by omega)
            rw [Q75.1, Q75.2.1, Q75.2.2] at e
            have z := hz.1.e2 hc (by rw [← hz.2.2.1]; exact e1) (by omega) (by rw [← hz.2.2.1]; exact e.2.1)
            rw [z, ← hz.2.2.1]
            exact Or.inl ⟨by omega, e.2.1, e.2.2⟩⟩ dX11_readsCompared_86
      refine x_aload_n hx hb hl 1 rfl dX11_readsCompared_58 rfl ?_
      refine x_iconst hx hb dX11_readsCompared_59 ?_
      refine x_aload_n hx hb hl 1 rfl dX11_readsCompared_60 rfl ?_
      refine x_get (j := 9) (v := .int (xJ (s2 268 9))) hx hb hown hT hE hW cls_X11 (Or.inl (by decide)) (so_268 h0 g _) (by decide) rfl wq1194 dX11_readsCompared_61 ?_
      refine x_rd hW (fun x38 ex38 rx38 => ?_)
      have bx38 : 0 ≤ x38 ∧ x38 ≤ s2 268 10 ∧ s2 268 10 ≤ 240 := by rw [ex38]; exact hp3.1.2.2.2.1
      have q39 : s2 268 9 = x38 := ex38.symm
      refine x_goi (x_runV (As := [.int (xJ 1), .int (xJ x38)]) hx hb hml hown hT hE hW hl.1 (Or.inl (by decide)) (so_268 h0 g _) rfl cf_X11_wrongAt wq1401 wq107 wq1399 (c_X11_wrongAtK l D g T h0 s2 hW.2.1 1 (by decide) x38 rx38 (by omega) hp3.1.1 hp3.1.2.1 hp3.1.2.2.1 hp3.1.2.2.2.1) ⟨rfl, rfl, ⟨by decide, by decide⟩, ⟨by decide, by decide⟩⟩ rfl rfl (Nat.le_of_ble_eq_true rfl) dX11_readsCompared_64) hW (fun x40 s41 H locs rx40 hp42 hW => ?_)
      obtain ⟨fs41, hp42⟩ := hp42
      have hF43 := hF4.call fs41 (fun k h => by omega)
      have ghp42 := hp42.2
      rw [eQ]
      exact x_zret hx hb hr hlk hW (by omega) ⟨hF43, ⟨hp42.1.1, hp42.1.2.1, hp42.1.2.2.1, hp42.1.2.2.2.1, (hp42.1.2.2.2.2.1.trans (hp3.1.2.2.2.2.1.trans k268_8)), (hp42.1.2.2.2.2.2.1.trans (hp3.1.2.2.2.2.2.1.trans k268_58)), (hp42.1.2.2.2.2.2.2.1.trans (hp3.1.2.2.2.2.2.2.1.trans k268_17)), (hp42.1.2.2.2.2.2.2.2.2.1.trans (hp3.1.2.2.2.2.2.2.2.1.trans k268_10)), (hp42.1.2.2.2.2.2.2.2.2.2.2.2.2.1.trans (hp3.1.2.2.2.2.2.2.2.2.1.trans k268_16)), (hp42.1.2.2.2.2.2.2.2.2.2.2.2.2.2.1.trans (hp3.1.2.2.2.2.2.2.2.2.2.1.trans k268_48)), trivial⟩, by
          have z := hz.1.one hc (by rw [← hz.2.2.1]; exact e1) (by omega)
          rw [z]
          exact Or.inl ⟨by omega, (by show (-1000 - _ : Int) ≠ 0; omega), (by show _ = (-1000 - _ : Int); omega)⟩⟩ dX11_readsCompared_67
    refine x_icmp_ne (tgt := 23) hx hb rx6 (by decide) dX11_readsCompared_15 (by decide) (fun c44 => ?_) (fun c44 => ?_)
    · skip
      refine x_aload_n hx hb hl 0 rfl dX11_readsCompared_23 rfl ?_
      refine x_goi (x_runV (As := []) hx hb hml hown hT hE hW hl.1 (Or.inl (by decide)) (so_268 h0 g _) rfl cf_X11_here wq1391 wq106 wq1389 (c_X11_here l D g T h0 s2 hW.2.1 hp3.1.1 hp3.1.2.1 hp3.1.2.2.1 hp3.1.2.2.2.1) ⟨rfl, rfl, ⟨by decide, by decide⟩, ⟨by decide, by decide⟩⟩ rfl rfl (Nat.le_of_ble_eq_true rfl) dX11_readsCompared_24) hW (fun x45 s46 H locs rx45 hp47 hW => ?_)
      obtain ⟨es46, hp47⟩ := hp47
      subst es46
      have ghp47 := hp47
      have C24 : x45 = zch f9 n9 (s2 268 9) := by
        have q8 := ghp47.1
        rw [zhC_ch, show s2 276 = s0 276 from hF4 276 (by first | decide | omega), hf.1, show s2 268 10 = n9 from by omega] at q8
        exact q8
      rw [← ep1] at C24
      refine x_bipush hx hb dX11_readsCompared_27 (by decide) ?_
      refine x_icmp_ne (tgt := 37) hx hb rx45 (by decide) dX11_readsCompared_29 (by decide) (fun c48 => ?_) (fun c48 => ?_)
      · skip
        refine x_aload_n hx hb hl 0 rfl dX11_readsCompared_37 rfl ?_
        refine x_goi (x_runV (As := []) hx hb hml hown hT hE hW hl.1 (Or.inl (by decide)) (so_268 h0 g _) rfl cf_X11_here wq1391 wq106 wq1389 (c_X11_here l D g T h0 s2 hW.2.1 hp3.1.1 hp3.1.2.1 hp3.1.2.2.1 hp3.1.2.2.2.1) ⟨rfl, rfl, ⟨by decide, by decide⟩, ⟨by decide, by decide⟩⟩ rfl rfl (Nat.le_of_ble_eq_true rfl) dX11_readsCompared_38) hW (fun x49 s50 H locs rx49 hp51 hW => ?_)
        obtain ⟨es50, hp51⟩ := hp51
        subst es50
        have ghp51 := hp51
        have C38 : x49 = zch f9 n9 (s2 268 9) := by
          have q8 := ghp51.1
          rw [zhC_ch, show s2 276 = s0 276 from hF4 276 (by first | decide | omega), hf.1, show s2 268 10 = n9 from by omega] at q8
          exact q8
        rw [← ep1] at C38
        refine x_bipush hx hb dX11_readsCompared_41 (by decide) ?_
        refine x_icmp_ne (tgt := 51) hx hb rx49 (by decide) dX11_readsCompared_43 (by decide) (fun c52 => ?_) (fun c52 => ?_)
        · skip
          refine x_iconst hx hb dX11_readsCompared_51 ?_
          exact J52 (-1) H locs ls (by decide) (by omega) hW (lv_sub hl [0] rfl)
        refine x_bipush hx hb dX11_readsCompared_46 (by decide) ?_
        refine lv_goto (tgt := 52) hx hb dX11_readsCompared_48 (by decide) ?_
        exact J52 9 H locs ls (by decide) (by omega) hW (lv_sub hl [0] rfl)
      refine x_bipush hx hb dX11_readsCompared_32 (by decide) ?_
      refine lv_goto (tgt := 52) hx hb dX11_readsCompared_34 (by decide) ?_
      exact J52 8 H locs ls (by decide) (by omega) hW (lv_sub hl [0] rfl)
    refine x_bipush hx hb dX11_readsCompared_18 (by decide) ?_
    refine lv_goto (tgt := 52) hx hb dX11_readsCompared_20 (by decide) ?_
    exact J52 7 H locs ls (by decide) (by omega) hW (lv_sub hl [0] rfl)
  refine x_iconst hx hb dX11_readsCompared_7 ?_
  rw [eQ]
  exact x_zret hx hb hr hlk hW (by omega) ⟨hF4, ⟨hp3.1.1, hp3.1.2.1, hp3.1.2.2.1, hp3.1.2.2.2.1, (hp3.1.2.2.2.2.1.trans k268_8), (hp3.1.2.2.2.2.2.1.trans k268_58), (hp3.1.2.2.2.2.2.2.1.trans k268_17), (hp3.1.2.2.2.2.2.2.2.1.trans k268_10), (hp3.1.2.2.2.2.2.2.2.2.1.trans k268_16), (hp3.1.2.2.2.2.2.2.2.2.2.1.trans k268_48), trivial⟩, by
    have e := H1.resolve_right (fun q => by omega)
    have z := hz.1.e1 hc (by rw [← hz.2.2.1]; exact e.2.1)
    rw [z, ← hz.2.2.1]
    exact Or.inl ⟨by omega, e.2.1, e.2.2⟩⟩ dX11_readsCompared_8


set_option maxHeartbeats 4000000 in
set_option maxRecDepth 100000 in
theorem c_X11_readsConditionK (l : Launch) (D : va_G) (g : xG) (T : Nat × Nat × Nat) (h0 : Nat) (s0 : xS) (hσ : xRR s0) (f9 : Int → Int) (n9 : Int) (hf : xm8 (s0 276) = f9 ∧ s0 268 10 = n9) (hc0 : 0 ≤ s0 268 14 ∧ s0 268 14 ≤ s0 268 9) (p0 : IMn s0) (p1 : IMk s0) (p2 : IMo s0) (p3 : IR s0) : Met l yX11_readsCondition (xws yX11_readsCondition cX11_readsCondition 1 (some .boolean)) { frames := 6, cells := 0, slots := 0, locals := 125 } (xP [.ref (h0 + 268)] D g T h0 s0) (xQi D g h0 (fun r τ => xFr (fun k => k = 268 ∨ k = 277 ∨ k = 278) s0 τ ∧ (((IMn τ) ∧ (IMk τ) ∧ (IMo τ) ∧ (IR τ) ∧ (τ 268 8 = s0 268 8) ∧ (τ 268 58 = s0 268 58) ∧ (τ 268 17 = s0 268 17) ∧ (τ 268 10 = s0 268 10) ∧ (τ 268 16 = s0 268 16) ∧ (τ 268 48 = s0 268 48) ∧ True) ∧ ((r = 0 ∧ (zc2 f9 n9 (s0 268 9) (s0 268 14) (s0 277)).1 ≠ 0 ∧ τ 268 11 = (zc2 f9 n9 (s0 268 9) (s0 268 14) (s0 277)).1) ∨ (r = 1 ∧ (zc2 f9 n9 (s0 268 9) (s0 268 14) (s0 277)) = (0, τ 268 9, τ 268 14, τ 277) ∧ s0 268 9 + 1 ≤ τ 268 9))))) 0 0 (xA h0) := by
  refine x_met hσ (by decide) (Nat.le_of_ble_eq_true rfl) ?_
  intro p e s m args below meth c hx hb hr hml hown hT hlk hnm hE hW ls hl
  have hl : lv_has ls 1 [(0, .ref (h0 + 268))] := hl
  obtain ⟨Q, eQ⟩ : ∃ Q, Q = MQ below (xQi D g h0 (fun r τ => xFr (fun k => k = 268 ∨ k = 277 ∨ k = 278) s0 τ ∧ (((IMn τ) ∧ (IMk τ) ∧ (IMo τ) ∧ (IR τ) ∧ (τ 268 8 = s0 268 8) ∧ (τ 268 58 = s0 268 58) ∧ (τ 268 17 = s0 268 17) ∧ (τ 268 10 = s0 268 10) ∧ (τ 268 16 = s0 268 16) ∧ (τ 268 48 = s0 268 48) ∧ True) ∧ ((r = 0 ∧ (zc2 f9 n9 (s0 268 9) (s0 268 14) (s0 277)).1 ≠ 0 ∧ τ 268 11 = (zc2 f9 n9 (s0 268 9) (s0 268 14) (s0 277)).1) ∨ (r = 1 ∧ (zc2 f9 n9 (s0 268 9) (s0 268 14) (s0 277)) = (0, τ 268 9, τ 268 14, τ 277) ∧ s0 268 9 + 1 ≤ τ 268 9))))) args s 0 0 (xA h0) := ⟨_, rfl⟩
  rw [← eQ]
  generalize hHe : ([] : List Loc) = locs at hW ⊢
  obtain ⟨H, eH⟩ : ∃ H, H = s.heap := ⟨_, rfl⟩
  rw [← eH] at hW ⊢
  have hF : xFr (fun k => k = 268 ∨ k = 277 ∨ k = 278) s0 s0 := xFr.rf
  have k268_8 : s0 268 8 = s0 268 8 := rfl
  have k268_58 : s0 268 58 = s0 268 58 := rfl
  have k268_17 : s0 268 17 = s0 268 17 := rfl
  have k268_10 : s0 268 10 = s0 268 10 := rfl
  have k268_16 : s0 268 16 = s0 268 16 := rfl
  have k268_48 : s0 268 48 = s0 268 48 := rfl
  have k268_9 : s0 268 9 = s0 268 9 := rfl
  have k268_13 : s0 268 13 = s0 268 13 := rfl
  have k268_14 : s0 268 14 = s0 268 14 := rfl
  have k268_15 : s0 268 15 = s0 268 15 := rfl
  have hf2 := hf.2
  have hr0 : 0 ≤ s0 268 9 ∧ s0 268 9 ≤ s0 268 10 ∧ s0 268 10 ≤ 240 := p3
  refine x_aload_n hx hb hl 0 rfl dX11_readsCondition_0 rfl ?_
  refine x_goi (x_runV (As := []) hx hb hml hown hT hE hW hl.1 (Or.inl (by decide)) (so_268 h0 g _) rfl cf_X11_here wq1391 wq106 wq1389 (c_X11_here l D g T h0 s0 hW.2.1 p0 p1 p2 p3) ⟨rfl, rfl, ⟨by decide, by decide⟩, ⟨by decide, by decide⟩⟩ rfl rfl (Nat.le_of_ble_eq_true rfl) dX11_readsCondition_1) hW (fun x1 s2 H locs rx1 hp3 hW => ?_)
  obtain ⟨es2, hp3⟩ := hp3
  subst es2
  have ghp3 := hp3
  have C1 : x1 = zch f9 n9 (s0 268 9) := by
    have q8 := ghp3.1
    rw [zhC_ch, show s0 276 = s0 276 from hF 276 (by omega), hf.1, show s0 268 10 = n9 from by omega] at q8
    exact q8
  refine x_bipush hx hb dX11_readsCondition_4 (by decide) ?_
  refine x_icmp_eq (tgt := 19) hx hb rx1 (by decide) dX11_readsCondition_6 (by decide) (fun c4 => ?_) (fun c4 => ?_)
  · skip
    refine x_aload_n hx hb hl 0 rfl dX11_readsCondition_19 rfl ?_
    refine x_iconst hx hb dX11_readsCondition_20 ?_
    refine x_put (j := 13) hx hb hown hT hE hW cls_X11 (by decide) (fun σ => so_268 h0 g σ) (by decide) (st_X11_13 h0 s0 268 0) (ln_X11_13 h0 _ _) wq1198 rfl rfl rfl (by decide) dX11_readsCondition_21 (fun H locs s5 es5 hW => ?_)
    have q6 : IMn s5 := by rw [es5]; exact IMn_268 p0 (by omega)
    have q7 : IMk s5 := by rw [es5]; exact IMk_268 p1 (by omega)
    have q8 : IMo s5 := by rw [es5]; exact IMo_o (by unfold suIMo; first | decide | omega) p2
    have q9 : IR s5 := by rw [es5]; exact IR_268 p3 (by omega)
    have q10 : s5 268 8 = s0 268 8 := (show s5 268 8 = s0 268 8 from by rw [es5, xU_j _ _ (by decide)]).trans k268_8
    have q11 : s5 268 58 = s0 268 58 := (show s5 268 58 = s0 268 58 from by rw [es5, xU_j _ _ (by decide)]).trans k268_58
    have q12 : s5 268 17 = s0 268 17 := (show s5 268 17 = s0 268 17 from by rw [es5, xU_j _ _ (by decide)]).trans k268_17
    have q13 : s5 268 10 = s0 268 10 := (show s5 268 10 = s0 268 10 from by rw [es5, xU_j _ _ (by decide)]).trans k268_10
    have q14 : s5 268 16 = s0 268 16 := (show s5 268 16 = s0 268 16 from by rw [es5, xU_j _ _ (by decide)]).trans k268_16
    have q15 : s5 268 48 = s0 268 48 := (show s5 268 48 = s0 268 48 from by rw [es5, xU_j _ _ (by decide)]).trans k268_48
    have q16 : s5 268 9 = s0 268 9 := (show s5 268 9 = s0 268 9 from by rw [es5, xU_j _ _ (by decide)]).trans k268_9
    have q17 : s5 268 13 = 0 := by rw [es5, xU_s]
    have q18 : s5 268 14 = s0 268 14 := (show s5 268 14 = s0 268 14 from by rw [es5, xU_j _ _ (by decide)]).trans k268_14
    have q19 : s5 268 15 = s0 268 15 := (show s5 268 15 = s0 268 15 from by rw [es5, xU_j _ _ (by decide)]).trans k268_15
    have hF20 := hF.put es5 (by omega)
    have E21 := es5
    refine x_aload_n hx hb hl 0 rfl dX11_readsCondition_24 rfl ?_
    refine x_iconst hx hb dX11_readsCondition_25 ?_
    refine x_put (j := 15) hx hb hown hT hE hW cls_X11 (by decide) (fun σ => so_268 h0 g σ) (by decide) (st_X11_15 h0 s5 268 0) (ln_X11_15 h0 _ _) wq1200 rfl rfl rfl (by decide) dX11_readsCondition_26 (fun H locs s21 es21 hW => ?_)
    have q22 : IMn s21 := by rw [es21]; exact IMn_268 q6 (by omega)
    have q23 : IMk s21 := by rw [es21]; exact IMk_268 q7 (by omega)
    have q24 : IMo s21 := by rw [es21]; exact IMo_o (by unfold suIMo; first | decide | omega) q8
    have q25 : IR s21 := by rw [es21]; exact IR_268 q9 (by omega)
    have q26 : s21 268 8 = s0 268 8 := (show s21 268 8 = s5 268 8 from by rw [es21, xU_j _ _ (by decide)]).trans q10
    have q27 : s21 268 58 = s0 268 58 := (show s21 268 58 = s5 268 58 from by rw [es21, xU_j _ _ (by decide)]).trans q11
    have q28 : s21 268 17 = s0 268 17 := (show s21 268 17 = s5 268 17 from by rw [es21, xU_j _ _ (by decide)]).trans q12
    have q29 : s21 268 10 = s0 268 10 := (show s21 268 10 = s5 268 10 from by rw [es21, xU_j _ _ (by decide)]).trans q13
    have q30 : s21 268 16 = s0 268 16 := (show s21 268 16 = s5 268 16 from by rw [es21, xU_j _ _ (by decide)]).trans q14
    have q31 : s21 268 48 = s0 268 48 := (show s21 268 48 = s5 268 48 from by rw [es21, xU_j _ _ (by decide)]).trans q15
    have q32 : s21 268 9 = s0 268 9 := (show s21 268 9 = s5 268 9 from by rw [es21, xU_j _ _ (by decide)]).trans q16
    have q33 : s21 268 13 = 0 := (show s21 268 13 = s5 268 13 from by rw [es21, xU_j _ _ (by decide)]).trans q17
    have q34 : s21 268 14 = s0 268 14 := (show s21 268 14 = s5 268 14 from by rw [es21, xU_j _ _ (by decide)]).trans q18
    have q35 : s21 268 15 = 0 := by rw [es21, xU_s]
    have hF36 := hF20.put es21 (by omega)
    have E26 := es21
    refine x_aload_n hx hb hl 0 rfl dX11_readsCondition_29 rfl ?_
    refine x_bipush hx hb dX11_readsCondition_30 (by decide) ?_
    refine x_goi (x_runV (As := [.int (xJ 13)]) hx hb hml hown hT hE hW hl.1 (Or.inl (by decide)) (so_268 h0 g _) rfl cf_X11_opens wq1480 wq118 wq1478 (c_X11_opensK l D g T h0 s21 hW.2.1 13 (by decide) (by omega) (by omega) (by omega) (by omega) q22 q23 q24 q25) ⟨rfl, rfl, ⟨by decide, by decide⟩, ⟨by decide, by decide⟩⟩ rfl rfl (Nat.le_of_ble_eq_true rfl) dX11_readsCondition_32) hW (fun x37 s38 H locs rx37 hp39 hW => ?_)
    obtain ⟨fs38, hp39⟩ := hp39
    have hF40 := hF36.call fs38 (fun k h => by omega)
    have ghp39 := hp39.2
    have H32 := ghp39
    have F32 := fs38
    have z2 : (zc2 f9 n9 (s0 268 9) (s0 268 14) (s0 277)) = (zC0 f9 n9 (s0 268 9 + 1) (s0 268 14) (s0 277)) := by unfold zc2; rw [if_neg (by omega)]
    have l32 := zch_lt (f := f9) (n := n9) (p := s0 268 9) (by omega)
    have Z32 : x37 ≠ 0 → zCQ f9 n9 (s0 268 14) (zC0 f9 n9 (s0 268 9 + 1) (s0 268 14) (s0 277)) true s38 := fun hv => by
      have e := H32.resolve_left (fun q => hv q.1)
      have ew : s38 278 = xud (s21 278) 0 13631488 := by rw [e.2.2.2.1, show s21 268 15 = 0 from by omega]; rfl
      have e15 : s38 268 15 = 1 := by omega
      have el : zls (s38 278) 0 (s38 268 15 - 0).toNat = [13631488] := by rw [e15, ew]; show [xud (s21 278) 0 13631488 (0 + ((0 : Nat) : Int))] = _; rw [show (0 : Int) + ((0 : Nat) : Int) = 0 from by decide, xud_s]
      have ek : s38 277 = s0 277 := by rw [F32 277 (by omega), E26, xU_k _ _ _ (by first | decide | omega), E21, xU_k _ _ _ (by first | decide | omega)]
      refine ⟨?_, by omega, ?_, by omega⟩
      · rw [el, ek, show s38 268 9 = s0 268 9 + 1 from by omega, show s38 268 14 = s0 268 14 from by omega]
        exact zCX.new (by omega)
      · rw [el]
        show s38 268 13 = 1
        omega
    refine x_if_ne (tgt := 40) hx hb rx37 dX11_readsCondition_35 (by decide) (fun c41 => ?_) (fun c41 => ?_)
    · skip
      have L40 : ∀ (fu : Nat) (s_40 : xS) (H : Heap) (locs : List Loc) (ls : Array Slot), (xFr (fun k => k = 268 ∨ k = 277 ∨ k = 278) s0 s_40) → (IMn s_40) → (IMk s_40) → (IMo s_40) → (IR s_40) → (s_40 268 8 = s0 268 8) → (s_40 268 58 = s0 268 58) → (s_40 268 17 = s0 268 17) → (s_40 268 10 = s0 268 10) → (s_40 268 16 = s0 268 16) → (s_40 268 48 = s0 268 48) → (zCQ f9 n9 (s0 268 14) (zC0 f9 n9 (s0 268 9 + 1) (s0 268 14) (s0 277)) true s_40) → (s0 268 9 + 1 ≤ s_40 268 9) → (241 - s_40 268 9).toNat < fu → xW D g h0 s H locs s_40 → lv_has ls 1 [(0, .ref (h0 + 268))] → W p l e { frames := 6, cells := 0, slots := 0, locals := 125 } s m args below meth c H locs 0 0 Q (F0 m 40 ls []) := by
        intro fu
        induction fu with
        | zero => intro s_40 H locs ls hF_40 q40_0 q40_1 q40_2 q40_3 q40_4 q40_5 q40_6 q40_7 q40_9 q40_10 v40_0 v40_1 hm; exact absurd hm (Nat.not_lt_zero _)
        | succ fu ih40 =>
          intro s_40 H locs ls hF_40 q40_0 q40_1 q40_2 q40_3 q40_4 q40_5 q40_6 q40_7 q40_9 q40_10 v40_0 v40_1 hm hW hl
          have hm_40 := fun (_ : Unit) => hm
          clear hm
          have b40 := v40_0.b
          have o40 := v40_0.o
          have r40 : 0 ≤ s_40 268 9 ∧ s_40 268 9 ≤ s_40 268 10 ∧ s_40 268 10 ≤ 240 := q40_3
          have n40 : s_40 268 10 = n9 := by omega
          refine x_aload_n hx hb hl 0 rfl dX11_readsCondition_40 rfl ?_
          refine x_goi (x_runV (As := []) hx hb hml hown hT hE hW hl.1 (Or.inl (by decide)) (so_268 h0 g _) rfl cf_X11_here wq1391 wq106 wq1389 (c_X11_here l D g T h0 s_40 hW.2.1 q40_0 q40_1 q40_2 q40_3) ⟨rfl, rfl, ⟨by decide, by decide⟩, ⟨by decide, by decide⟩⟩ rfl rfl (Nat.le_of_ble_eq_true rfl) dX11_readsCondition_41) hW (fun x42 s43 H locs rx42 hp44 hW => ?_)
          obtain ⟨es43, hp44⟩ := hp44
          subst es43
          have ghp44 := hp44
          have C41 : x42 = zch f9 n9 (s_40 268 9) := by
            have q8 := ghp44.1
            rw [zhC_ch, show s_40 276 = s0 276 from hF_40 276 (by first | decide | omega), hf.1, show s_40 268 10 = n9 from by omega] at q8
            exact q8
          have L41 : zch f9 n9 (s_40 268 9) ≠ -1 → s_40 268 9 < n9 := zch_lt
          refine x_bipush hx hb dX11_readsCondition_44 (by decide) ?_
          refine x_icmp_eq (tgt := 58) hx hb rx42 (by decide) dX11_readsCondition_46 (by decide) (fun c45 => ?_) (fun c45 => ?_)
          · skip
            refine x_aload_n hx hb hl 0 rfl dX11_readsCondition_58 rfl ?_
            refine x_aload_n hx hb hl 0 rfl dX11_readsCondition_59 rfl ?_
            refine x_goi (x_runV (As := []) hx hb hml hown hT hE hW hl.1 (Or.inl (by decide)) (so_268 h0 g _) rfl cf_X11_here wq1391 wq106 wq1389 (c_X11_here l D g T h0 s_40 hW.2.1 q40_0 q40_1 q40_2 q40_3) ⟨rfl, rfl, ⟨by decide, by decide⟩, ⟨by decide, by decide⟩⟩ rfl rfl (Nat.le_of_ble_eq_true rfl) dX11_readsCondition_60) hW (fun x46 s47 H locs rx46 hp48 hW => ?_)
            obtain ⟨es47, hp48⟩ := hp48
            subst es47
            have ghp48 := hp48
            have C60 : x46 = zch f9 n9 (s_40 268 9) := by
              have q8 := ghp48.1
              rw [zhC_ch, show s_40 276 = s0 276 from hF_40 276 (by first | decide | omega), hf.1, show s_40 268 10 = n9 from by omega] at q8
              exact q8
            refine x_bipush hx hb dX11_readsCondition_63 (by decide) ?_
            refine x_icmp_ne (tgt := 73) hx hb rx46 (by decide) dX11_readsCondition_65 (by decide) (fun c49 => ?_) (fun c49 => ?_)
            · skip
              refine x_bipush hx hb dX11_readsCondition_73 (by decide) ?_
              refine x_goi (x_runV (As := [.int (xJ 13)]) hx hb hml hown hT hE hW hl.1 (Or.inl (by decide)) (so_268 h0 g _) rfl cf_X11_opens wq1480 wq118 wq1478 (c_X11_opensK l D g T h0 s_40 hW.2.1 13 (by decide) (by omega) (by omega) (by omega) (by omega) q40_0 q40_1 q40_2 q40_3) ⟨rfl, rfl, ⟨by decide, by decide⟩, ⟨by decide, by decide⟩⟩ rfl rfl (Nat.le_of_ble_eq_true rfl) dX11_readsCondition_75) hW (fun x50 s51 H locs rx50 hp52 hW => ?_)
              obtain ⟨fs51, hp52⟩ := hp52
              have hF53 := hF_40.call fs51 (fun k h => by omega)
              have ghp52 := hp52.2
              have H75 := ghp52
              have F75 := fs51
              refine x_if_ne (tgt := 40) hx hb rx50 dX11_readsCondition_78 (by decide) (fun c54 => ?_) (fun c54 => ?_)
              · skip
                exact ih40 s51 H locs ls hF53 hp52.1.1 hp52.1.2.1 hp52.1.2.2.1 hp52.1.2.2.2.1 (hp52.1.2.2.2.2.1.trans q40_4) (hp52.1.2.2.2.2.2.1.trans q40_5) (hp52.1.2.2.2.2.2.2.1.trans q40_6) (hp52.1.2.2.2.2.2.2.2.1.trans q40_7) (hp52.1.2.2.2.2.2.2.2.2.2.1.trans q40_9) (hp52.1.2.2.2.2.2.2.2.2.2.2.1.trans q40_10) (by first | exact H215.1 | (have e := H75.resolve_left (fun q => by omega); exact v40_0.open_ (by omega) (by omega) (by omega) (by omega) (F75 277 (by omega)) (by omega) (by omega) e.2.2.2.1)) (by omega) (by have hm := hm_40 (); omega) hW (lv_sub hl [0] rfl)
              refine x_iconst hx hb dX11_readsCondition_81 ?_
              rw [eQ]
              exact x_zret hx hb hr hlk hW (by omega) ⟨hF53, ⟨hp52.1.1, hp52.1.2.1, hp52.1.2.2.1, hp52.1.2.2.2.1, (hp52.1.2.2.2.2.1.trans q40_4), (hp52.1.2.2.2.2.2.1.trans q40_5), (hp52.1.2.2.2.2.2.2.1.trans q40_6), (hp52.1.2.2.2.2.2.2.2.1.trans q40_7), (hp52.1.2.2.2.2.2.2.2.2.2.1.trans q40_9), (hp52.1.2.2.2.2.2.2.2.2.2.2.1.trans q40_10), trivial⟩, by
                  have e := H75.resolve_right (fun q => by omega)
                  have z := v40_0.1.five (by omega) (by rw [← v40_0.2.2.1]; omega)
                  rw [z2, z]
                  exact Or.inl ⟨by omega, (by show (-5000 - _ : Int) ≠ 0; omega), (by show _ = (-5000 - _ : Int); omega)⟩⟩ dX11_readsCondition_82
            refine x_bipush hx hb dX11_readsCondition_68 (by decide) ?_
            refine lv_goto (tgt := 75) hx hb dX11_readsCondition_70 (by decide) ?_
            refine x_goi (x_runV (As := [.int (xJ 10)]) hx hb hml hown hT hE hW hl.1 (Or.inl (by decide)) (so_268 h0 g _) rfl cf_X11_opens wq1480 wq118 wq1478 (c_X11_opensK l D g T h0 s_40 hW.2.1 10 (by decide) (by omega) (by omega) (by omega) (by omega) q40_0 q40_1 q40_2 q40_3) ⟨rfl, rfl, ⟨by decide, by decide⟩, ⟨by decide, by decide⟩⟩ rfl rfl (Nat.le_of_ble_eq_true rfl) dX11_readsCondition_75) hW (fun x55 s56 H locs rx55 hp57 hW => ?_)
            obtain ⟨fs56, hp57⟩ := hp57
            have hF58 := hF_40.call fs56 (fun k h => by omega)
            have ghp57 := hp57.2
            have H75 := ghp57
            have F75 := fs56
            refine x_if_ne (tgt := 40) hx hb rx55 dX11_readsCondition_78 (by decide) (fun c59 => ?_) (fun c59 => ?_)
            · skip
              exact ih40 s56 H locs ls hF58 hp57.1.1 hp57.1.2.1 hp57.1.2.2.1 hp57.1.2.2.2.1 (hp57.1.2.2.2.2.1.trans q40_4) (hp57.1.2.2.2.2.2.1.trans q40_5) (hp57.1.2.2.2.2.2.2.1.trans q40_6) (hp57.1.2.2.2.2.2.2.2.1.trans q40_7) (hp57.1.2.2.2.2.2.2.2.2.2.1.trans q40_9) (hp57.1.2.2.2.2.2.2.2.2.2.2.1.trans q40_10) (by first | exact H215.1 | (have e := H75.resolve_left (fun q => by omega); exact v40_0.open_ (by omega) (by omega) (by omega) (by omega) (F75 277 (by omega)) (by omega) (by omega) e.2.2.2.1)) (by omega) (by have hm := hm_40 (); omega) hW (lv_sub hl [0] rfl)
            refine x_iconst hx hb dX11_readsCondition_81 ?_
            rw [eQ]
            exact x_zret hx hb hr hlk hW (by omega) ⟨hF58, ⟨hp57.1.1, hp57.1.2.1, hp57.1.2.2.1, hp57.1.2.2.2.1, (hp57.1.2.2.2.2.1.trans q40_4), (hp57.1.2.2.2.2.2.1.trans q40_5), (hp57.1.2.2.2.2.2.2.1.trans q40_6), (hp57.1.2.2.2.2.2.2.2.1.trans q40_7), (hp57.1.2.2.2.2.2.2.2.2.2.1.trans q40_9), (hp57.1.2.2.2.2.2.2.2.2.2.2.1.trans q40_10), trivial⟩, by
                have e := H75.resolve_right (fun q => by omega)
                have z := v40_0.1.five (by omega) (by rw [← v40_0.2.2.1]; omega)
                rw [z2, z]
                exact Or.inl ⟨by omega, (by show (-5000 - _ : Int) ≠ 0; omega), (by show _ = (-5000 - _ : Int); omega)⟩⟩ dX11_readsCondition_82
          refine x_aload_n hx hb hl 0 rfl dX11_readsCondition_49 rfl ?_
          refine x_goi (x_runV (As := []) hx hb hml hown hT hE hW hl.1 (Or.inl (by decide)) (so_268 h0 g _) rfl cf_X11_here wq1391 wq106 wq1389 (c_X11_here l D g T h0 s_40 hW.2.1 q40_0 q40_1 q40_2 q40_3) ⟨rfl, rfl, ⟨by decide, by decide⟩, ⟨by decide, by decide⟩⟩ rfl rfl (Nat.le_of_ble_eq_true rfl) dX11_readsCondition_50) hW (fun x60 s61 H locs rx60 hp62 hW => ?_)
          obtain ⟨es61, hp62⟩ := hp62
          subst es61
          have ghp62 := hp62
          have C50 : x60 = zch f9 n9 (s_40 268 9) := by
            have q8 := ghp62.1
            rw [zhC_ch, show s_40 276 = s0 276 from hF_40 276 (by first | decide | omega), hf.1, show s_40 268 10 = n9 from by omega] at q8
            exact q8
          refine x_bipush hx hb dX11_readsCondition_53 (by decide) ?_
          refine x_icmp_ne (tgt := 83) hx hb rx60 (by decide) dX11_readsCondition_55 (by decide) (fun c63 => ?_) (fun c63 => ?_)
          · skip
            refine x_aload_n hx hb hl 0 rfl dX11_readsCondition_83 rfl ?_
            refine x_goi (x_runV (As := []) hx hb hml hown hT hE hW hl.1 (Or.inl (by decide)) (so_268 h0 g _) rfl cf_X11_readsCompared wq1519 wq126 wq1517 (c_X11_readsComparedK l D g T h0 s_40 hW.2.1 f9 n9 (s0 268 14) (zC0 f9 n9 (s0 268 9 + 1) (s0 268 14) (s0 277)) (by first | exact hf | exact ⟨by rw [hF_40 276 (by first | decide | omega)]; exact hf.1, by omega⟩) (v40_0) (by omega) q40_0 q40_1 q40_2 q40_3) ⟨rfl, rfl, ⟨by decide, by decide⟩, ⟨by decide, by decide⟩⟩ rfl rfl (Nat.le_of_ble_eq_true rfl) dX11_readsCondition_84) hW (fun x64 s65 H locs rx64 hp66 hW => ?_)
            obtain ⟨fs65, hp66⟩ := hp66
            have hF67 := hF_40.call fs65 (fun k h => by omega)
            have ghp66 := hp66.2
            have H84 := ghp66
            refine x_if_ne (tgt := 92) hx hb rx64 dX11_readsCondition_87 (by decide) (fun c68 => ?_) (fun c68 => ?_)
            · skip
              have L92 : ∀ (fu : Nat) (s_92 : xS) (H : Heap) (locs : List Loc) (ls : Array Slot), (xFr (fun k => k = 268 ∨ k = 277 ∨ k = 278) s0 s_92) → (IMn s_92) → (IMk s_92) → (IMo s_92) → (IR s_92) → (s_92 268 8 = s0 268 8) → (s_92 268 58 = s0 268 58) → (s_92 268 17 = s0 268 17) → (s_92 268 10 = s0 268 10) → (s_92 268 16 = s0 268 16) → (s_92 268 48 = s0 268 48) → (zCQ f9 n9 (s0 268 14) (zC0 f9 n9 (s0 268 9 + 1) (s0 268 14) (s0 277)) false s_92) → (ztW s_92 ≠ 10 ∧ 0 < s_92 268 15) → (s_40 268 9 + 1 ≤ s_92 268 9) → (241 - s_92 268 9).toNat < fu → xW D g h0 s H locs s_92 → lv_has ls 1 [(0, .ref (h0 + 268))] → W p l e { frames := 6, cells := 0, slots := 0, locals := 125 } s m args below meth c H locs 0 0 Q (F0 m 92 ls []) := by
                intro fu
                induction fu with
                | zero => intro s_92 H locs ls hF_92 q92_0 q92_1 q92_2 q92_3 q92_4 q92_5 q92_6 q92_7 q92_8 q92_9 v92_0 v92_1 v92_2 hm; exact absurd hm (Nat.not_lt_zero _)
                | succ fu ih92 =>
                  intro s_92 H locs ls hF_92 q92_0 q92_1 q92_2 q92_3 q92_4 q92_5 q92_6 q92_7 q92_8 q92_9 v92_0 v92_1 v92_2 hm hW hl
                  have hm_92 := fun (_ : Unit) => hm
                  clear hm
                  have b92 := v92_0.b
                  have o92 := v92_0.o
                  have r92 : 0 ≤ s_92 268 9 ∧ s_92 268 9 ≤ s_92 268 10 ∧ s_92 268 10 ≤ 240 := q92_3
                  have t92 := v92_0.top v92_1.2
                  have n92 : s_92 268 10 = n9 := by omega
                  have w92 : 11 ≤ ztW s_92 := by omega
                  refine x_aload_n hx hb hl 0 rfl dX11_readsCondition_92 rfl ?_
                  refine x_goi (x_runV (As := []) hx hb hml hown hT hE hW hl.1 (Or.inl (by decide)) (so_268 h0 g _) rfl cf_X11_here wq1391 wq106 wq1389 (c_X11_here l D g T h0 s_92 hW.2.1 q92_0 q92_1 q92_2 q92_3) ⟨rfl, rfl, ⟨by decide, by decide⟩, ⟨by decide, by decide⟩⟩ rfl rfl (Nat.le_of_ble_eq_true rfl) dX11_readsCondition_93) hW (fun x69 s70 H locs rx69 hp71 hW => ?_)
                  obtain ⟨es70, hp71⟩ := hp71
                  subst es70
                  have ghp71 := hp71
                  have C93 : x69 = zch f9 n9 (s_92 268 9) := by
                    have q8 := ghp71.1
                    rw [zhC_ch, show s_92 276 = s0 276 from hF_92 276 (by first | decide | omega), hf.1, show s_92 268 10 = n9 from by omega] at q8
                    exact q8
                  have L93 : zch f9 n9 (s_92 268 9) ≠ -1 → s_92 268 9 < n9 := zch_lt
                  refine x_bipush hx hb dX11_readsCondition_96 (by decide) ?_
                  refine x_icmp_ne (tgt := 152) hx hb rx69 (by decide) dX11_readsCondition_98 (by decide) (fun c72 => ?_) (fun c72 => ?_)
                  · skip
                    refine x_aload_n hx hb hl 0 rfl dX11_readsCondition_152 rfl ?_
                    refine x_goi (x_runV (As := []) hx hb hml hown hT hE hW hl.1 (Or.inl (by decide)) (so_268 h0 g _) rfl cf_X11_here wq1391 wq106 wq1389 (c_X11_here l D g T h0 s_92 hW.2.1 q92_0 q92_1 q92_2 q92_3) ⟨rfl, rfl, ⟨by decide, by decide⟩, ⟨by decide, by decide⟩⟩ rfl rfl (Nat.le_of_ble_eq_true rfl) dX11_readsCondition_153) hW (fun x73 s74 H locs rx73 hp75 hW => ?_)
                    obtain ⟨es74, hp75⟩ := hp75
                    subst es74
                    have ghp75 := hp75
                    have C153 : x73 = zch f9 n9 (s_92 268 9) := by
                      have q8 := ghp75.1
                      rw [zhC_ch, show s_92 276 = s0 276 from hF_92 276 (by first | decide | omega), hf.1, show s_92 268 10 = n9 from by omega] at q8
                      exact q8
                    refine x_bipush hx hb dX11_readsCondition_156 (by decide) ?_
                    refine x_icmp_eq (tgt := 180) hx hb rx73 (by decide) dX11_readsCondition_158 (by decide) (fun c76 => ?_) (fun c76 => ?_)
                    · skip
                      refine x_aload_n hx hb hl 0 rfl dX11_readsCondition_180 rfl ?_
                      refine x_aload_n hx hb hl 0 rfl dX11_readsCondition_181 rfl ?_
                      refine x_goi (x_runV (As := []) hx hb hml hown hT hE hW hl.1 (Or.inl (by decide)) (so_268 h0 g _) rfl cf_X11_here wq1391 wq106 wq1389 (c_X11_here l D g T h0 s_92 hW.2.1 q92_0 q92_1 q92_2 q92_3) ⟨rfl, rfl, ⟨by decide, by decide⟩, ⟨by decide, by decide⟩⟩ rfl rfl (Nat.le_of_ble_eq_true rfl) dX11_readsCondition_182) hW (fun x77 s78 H locs rx77 hp79 hW => ?_)
                      obtain ⟨es78, hp79⟩ := hp79
                      subst es78
                      have ghp79 := hp79
                      have C182 : x77 = zch f9 n9 (s_92 268 9) := by
                        have q8 := ghp79.1
                        rw [zhC_ch, show s_92 276 = s0 276 from hF_92 276 (by first | decide | omega), hf.1, show s_92 268 10 = n9 from by omega] at q8
                        exact q8
                      refine x_bipush hx hb dX11_readsCondition_185 (by decide) ?_
                      refine x_icmp_ne (tgt := 194) hx hb rx77 (by decide) dX11_readsCondition_187 (by decide) (fun c80 => ?_) (fun c80 => ?_)
                      · skip
                        refine x_iconst hx hb dX11_readsCondition_194 ?_
                        refine x_gov (x_runV (As := [.int (xJ 0)]) hx hb hml hown hT hE hW hl.1 (Or.inl (by decide)) (so_268 h0 g _) rfl cf_X11_lands wq1527 wq128 wq1525 (c_X11_landsK l D g T h0 s_92 hW.2.1 0 (by decide) f9 n9 (s0 268 14) (zC0 f9 n9 (s0 268 9 + 1) (s0 268 14) (s0 277)) (by first | exact hf | exact ⟨by rw [hF_92 276 (by first | decide | omega)]; exact hf.1, by omega⟩) (v92_0) (by omega) q92_0 q92_1 q92_2 q92_3) ⟨rfl, rfl, ⟨by decide, by decide⟩, ⟨by decide, by decide⟩⟩ rfl rfl (Nat.le_of_ble_eq_true rfl) dX11_readsCondition_195) hW (fun s82 H locs hp83 hW => ?_)
                        obtain ⟨fs82, hp83⟩ := hp83
                        have hF84 := hF_92.call fs82 (fun k h => by omega)
                        have ghp83 := hp83.2
                        have H195 := ghp83
                        have b195 := H195.1.b
                        refine x_aload_n hx hb hl 0 rfl dX11_readsCondition_198 rfl ?_
                        refine x_aload_n hx hb hl 0 rfl dX11_readsCondition_199 rfl ?_
                        refine x_goi (x_runV (As := []) hx hb hml hown hT hE hW hl.1 (Or.inl (by decide)) (so_268 h0 g _) rfl cf_X11_here wq1391 wq106 wq1389 (c_X11_here l D g T h0 s82 hW.2.1 hp83.1.1 hp83.1.2.1 hp83.1.2.2.1 hp83.1.2.2.2.1) ⟨rfl, rfl, ⟨by decide, by decide⟩, ⟨by decide, by decide⟩⟩ rfl rfl (Nat.le_of_ble_eq_true rfl) dX11_readsCondition_200) hW (fun x85 s86 H locs rx85 hp87 hW => ?_)
                        obtain ⟨es86, hp87⟩ := hp87
                        subst es86
                        have ghp87 := hp87
                        have C200 : x85 = zch f9 n9 (s82 268 9) := by
                          have q8 := ghp87.1
                          rw [zhC_ch, show s82 276 = s0 276 from hF84 276 (by first | decide | omega), hf.1, show s82 268 10 = n9 from by omega] at q8
                          exact q8
                        rw [show s82 268 9 = s_92 268 9 from by omega] at C200
                        refine x_bipush hx hb dX11_readsCondition_203 (by decide) ?_
                        refine x_icmp_ne (tgt := 213) hx hb rx85 (by decide) dX11_readsCondition_205 (by decide) (fun c88 => ?_) (fun c88 => ?_)
                        · skip
                          refine x_bipush hx hb dX11_readsCondition_213 (by decide) ?_
                          refine x_gov (x_runV (As := [.int (xJ 12)]) hx hb hml hown hT hE hW hl.1 (Or.inl (by decide)) (so_268 h0 g _) rfl cf_X11_jumps wq1531 wq129 wq1529 (c_X11_jumpsK l D g T h0 s82 hW.2.1 12 (by decide) f9 n9 (s0 268 14) (zC0 f9 n9 (s0 268 9 + 1) (s0 268 14) (s0 277)) (by first | exact hf | exact ⟨by rw [hF84 276 (by first | decide | omega)]; exact hf.1, by omega⟩) (H195.1) (by rw [show s82 268 9 = s_92 268 9 from by omega]; omega) hp83.1.1 hp83.1.2.1 hp83.1.2.2.1 hp83.1.2.2.2.1) ⟨rfl, rfl, ⟨by decide, by decide⟩, ⟨by decide, by decide⟩⟩ rfl rfl (Nat.le_of_ble_eq_true rfl) dX11_readsCondition_215) hW (fun s90 H locs hp91 hW => ?_)
                          obtain ⟨fs90, hp91⟩ := hp91
                          have hF92 := hF84.call fs90 (fun k h => by omega)
                          have ghp91 := hp91.2
                          have H215 := ghp91
                          refine lv_goto (tgt := 40) hx hb dX11_readsCondition_218 (by decide) ?_
                          exact ih40 s90 H locs ls hF92 hp91.1.1 hp91.1.2.1 hp91.1.2.2.1 hp91.1.2.2.2.1 (hp91.1.2.2.2.2.1.trans (hp83.1.2.2.2.2.1.trans q92_4)) (hp91.1.2.2.2.2.2.1.trans (hp83.1.2.2.2.2.2.1.trans q92_5)) (hp91.1.2.2.2.2.2.2.1.trans (hp83.1.2.2.2.2.2.2.1.trans q92_6)) (hp91.1.2.2.2.2.2.2.2.1.trans (hp83.1.2.2.2.2.2.2.2.2.1.trans q92_7)) (hp91.1.2.2.2.2.2.2.2.2.1.trans (hp83.1.2.2.2.2.2.2.2.2.2.2.2.1.trans q92_8)) (hp91.1.2.2.2.2.2.2.2.2.2.1.trans (hp83.1.2.2.2.2.2.2.2.2.2.2.2.2.1.trans q92_9)) (by first | exact H215.1 | (have e := H75.resolve_left (fun q => by omega); exact v40_0.open_ (by omega) (by omega) (by omega) (by omega) (F75 277 (by omega)) (by omega) (by omega) e.2.2.2.1)) (by omega) (by have hm := hm_40 (); omega) hW (lv_sub hl [0] rfl)
                        refine x_bipush hx hb dX11_readsCondition_208 (by decide) ?_
                        refine lv_goto (tgt := 215) hx hb dX11_readsCondition_210 (by decide) ?_
                        refine x_gov (x_runV (As := [.int (xJ 11)]) hx hb hml hown hT hE hW hl.1 (Or.inl (by decide)) (so_268 h0 g _) rfl cf_X11_jumps wq1531 wq129 wq1529 (c_X11_jumpsK l D g T h0 s82 hW.2.1 11 (by decide) f9 n9 (s0 268 14) (zC0 f9 n9 (s0 268 9 + 1) (s0 268 14) (s0 277)) (by first | exact hf | exact ⟨by rw [hF84 276 (by first | decide | omega)]; exact hf.1, by omega⟩) (H195.1) (by rw [show s82 268 9 = s_92 268 9 from by omega]; omega) hp83.1.1 hp83.1.2.1 hp83.1.2.2.1 hp83.1.2.2.2.1) ⟨rfl, rfl, ⟨by decide, by decide⟩, ⟨by decide, by decide⟩⟩ rfl rfl (Nat.le_of_ble_eq_true rfl) dX11_readsCondition_215) hW (fun s94 H locs hp95 hW => ?_)
                        obtain ⟨fs94, hp95⟩ := hp95
                        have hF96 := hF84.call fs94 (fun k h => by omega)
                        have ghp95 := hp95.2
                        have H215 := ghp95
                        refine lv_goto (tgt := 40) hx hb dX11_readsCondition_218 (by decide) ?_
                        exact ih40 s94 H locs ls hF96 hp95.1.1 hp95.1.2.1 hp95.1.2.2.1 hp95.1.2.2.2.1 (hp95.1.2.2.2.2.1.trans (hp83.1.2.2.2.2.1.trans q92_4)) (hp95.1.2.2.2.2.2.1.trans (hp83.1.2.2.2.2.2.1.trans q92_5)) (hp95.1.2.2.2.2.2.2.1.trans (hp83.1.2.2.2.2.2.2.1.trans q92_6)) (hp95.1.2.2.2.2.2.2.2.1.trans (hp83.1.2.2.2.2.2.2.2.2.1.trans q92_7)) (hp95.1.2.2.2.2.2.2.2.2.1.trans (hp83.1.2.2.2.2.2.2.2.2.2.2.2.1.trans q92_8)) (hp95.1.2.2.2.2.2.2.2.2.2.1.trans (hp83.1.2.2.2.2.2.2.2.2.2.2.2.2.1.trans q92_9)) (by first | exact H215.1 | (have e := H75.resolve_left (fun q => by omega); exact v40_0.open_ (by omega) (by omega) (by omega) (by omega) (F75 277 (by omega)) (by omega) (by omega) e.2.2.2.1)) (by omega) (by have hm := hm_40 (); omega) hW (lv_sub hl [0] rfl)
                      refine x_iconst hx hb dX11_readsCondition_190 ?_
                      refine lv_goto (tgt := 195) hx hb dX11_readsCondition_191 (by decide) ?_
                      refine x_gov (x_runV (As := [.int (xJ 1)]) hx hb hml hown hT hE hW hl.1 (Or.inl (by decide)) (so_268 h0 g _) rfl cf_X11_lands wq1527 wq128 wq1525 (c_X11_landsK l D g T h0 s_92 hW.2.1 1 (by decide) f9 n9 (s0 268 14) (zC0 f9 n9 (s0 268 9 + 1) (s0 268 14) (s0 277)) (by first | exact hf | exact ⟨by rw [hF_92 276 (by first | decide | omega)]; exact hf.1, by omega⟩) (v92_0) (by omega) q92_0 q92_1 q92_2 q92_3) ⟨rfl, rfl, ⟨by decide, by decide⟩, ⟨by decide, by decide⟩⟩ rfl rfl (Nat.le_of_ble_eq_true rfl) dX11_readsCondition_195) hW (fun s98 H locs hp99 hW => ?_)
                      obtain ⟨fs98, hp99⟩ := hp99
                      have hF100 := hF_92.call fs98 (fun k h => by omega)
                      have ghp99 := hp99.2
                      have H195 := ghp99
                      have b195 := H195.1.b
                      refine x_aload_n hx hb hl 0 rfl dX11_readsCondition_198 rfl ?_
                      refine x_aload_n hx hb hl 0 rfl dX11_readsCondition_199 rfl ?_
                      refine x_goi (x_runV (As := []) hx hb hml hown hT hE hW hl.1 (Or.inl (by decide)) (so_268 h0 g _) rfl cf_X11_here wq1391 wq106 wq1389 (c_X11_here l D g T h0 s98 hW.2.1 hp99.1.1 hp99.1.2.1 hp99.1.2.2.1 hp99.1.2.2.2.1) ⟨rfl, rfl, ⟨by decide, by decide⟩, ⟨by decide, by decide⟩⟩ rfl rfl (Nat.le_of_ble_eq_true rfl) dX11_readsCondition_200) hW (fun x101 s102 H locs rx101 hp103 hW => ?_)
                      obtain ⟨es102, hp103⟩ := hp103
                      subst es102
                      have ghp103 := hp103
                      have C200 : x101 = zch f9 n9 (s98 268 9) := by
                        have q8 := ghp103.1
                        rw [zhC_ch, show s98 276 = s0 276 from hF100 276 (by first | decide | omega), hf.1, show s98 268 10 = n9 from by omega] at q8
                        exact q8
                      rw [show s98 268 9 = s_92 268 9 from by omega] at C200
                      refine x_bipush hx hb dX11_readsCondition_203 (by decide) ?_
                      refine x_icmp_ne (tgt := 213) hx hb rx101 (by decide) dX11_readsCondition_205 (by decide) (fun c104 => ?_) (fun c104 => ?_)
                      · skip
                        refine x_bipush hx hb dX11_readsCondition_213 (by decide) ?_
                        refine x_gov (x_runV (As := [.int (xJ 12)]) hx hb hml hown hT hE hW hl.1 (Or.inl (by decide)) (so_268 h0 g _) rfl cf_X11_jumps wq1531 wq129 wq1529 (c_X11_jumpsK l D g T h0 s98 hW.2.1 12 (by decide) f9 n9 (s0 268 14) (zC0 f9 n9 (s0 268 9 + 1) (s0 268 14) (s0 277)) (by first | exact hf | exact ⟨by rw [hF100 276 (by first | decide | omega)]; exact hf.1, by omega⟩) (H195.1) (by rw [show s98 268 9 = s_92 268 9 from by omega]; omega) hp99.1.1 hp99.1.2.1 hp99.1.2.2.1 hp99.1.2.2.2.1) ⟨rfl, rfl, ⟨by decide, by decide⟩, ⟨by decide, by decide⟩⟩ rfl rfl (Nat.le_of_ble_eq_true rfl) dX11_readsCondition_215) hW (fun s106 H locs hp107 hW => ?_)
                        obtain ⟨fs106, hp107⟩ := hp107
                        have hF108 := hF100.call fs106 (fun k h => by omega)
                        have ghp107 := hp107.2
                        have H215 := ghp107
                        refine lv_goto (tgt := 40) hx hb dX11_readsCondition_218 (by decide) ?_
                        exact ih40 s106 H locs ls hF108 hp107.1.1 hp107.1.2.1 hp107.1.2.2.1 hp107.1.2.2.2.1 (hp107.1.2.2.2.2.1.trans (hp99.1.2.2.2.2.1.trans q92_4)) (hp107.1.2.2.2.2.2.1.trans (hp99.1.2.2.2.2.2.1.trans q92_5)) (hp107.1.2.2.2.2.2.2.1.trans (hp99.1.2.2.2.2.2.2.1.trans q92_6)) (hp107.1.2.2.2.2.2.2.2.1.trans (hp99.1.2.2.2.2.2.2.2.2.1.trans q92_7)) (hp107.1.2.2.2.2.2.2.2.2.1.trans (hp99.1.2.2.2.2.2.2.2.2.2.2.2.1.trans q92_8)) (hp107.1.2.2.2.2.2.2.2.2.2.1.trans (hp99.1.2.2.2.2.2.2.2.2.2.2.2.2.1.trans q92_9)) (by first | exact H215.1 | (have e := H75.resolve_left (fun q => by omega); exact v40_0.open_ (by omega) (by omega) (by omega) (by omega) (F75 277 (by omega)) (by omega) (by omega) e.2.2.2.1)) (by omega) (by have hm := hm_40 (); omega) hW (lv_sub hl [0] rfl)
                      refine x_bipush hx hb dX11_readsCondition_208 (by decide) ?_
                      refine lv_goto (tgt := 215) hx hb dX11_readsCondition_210 (by decide) ?_
                      refine x_gov (x_runV (As := [.int (xJ 11)]) hx hb hml hown hT hE hW hl.1 (Or.inl (by decide)) (so_268 h0 g _) rfl cf_X11_jumps wq1531 wq129 wq1529 (c_X11_jumpsK l D g T h0 s98 hW.2.1 11 (by decide) f9 n9 (s0 268 14) (zC0 f9 n9 (s0 268 9 + 1) (s0 268 14) (s0 277)) (by first | exact hf | exact ⟨by rw [hF100 276 (by first | decide | omega)]; exact hf.1, by omega⟩) (H195.1) (by rw [show s98 268 9 = s_92 268 9 from by omega]; omega) hp99.1.1 hp99.1.2.1 hp99.1.2.2.1 hp99.1.2.2.2.1) ⟨rfl, rfl, ⟨by decide, by decide⟩, ⟨by decide, by decide⟩⟩ rfl rfl (Nat.le_of_ble_eq_true rfl) dX11_readsCondition_215) hW (fun s110 H locs hp111 hW => ?_)
                      obtain ⟨fs110, hp111⟩ := hp111
                      have hF112 := hF100.call fs110 (fun k h => by omega)
                      have ghp111 := hp111.2
                      have H215 := ghp111
                      refine lv_goto (tgt := 40) hx hb dX11_readsCondition_218 (by decide) ?_
                      exact ih40 s110 H locs ls hF112 hp111.1.1 hp111.1.2.1 hp111.1.2.2.1 hp111.1.2.2.2.1 (hp111.1.2.2.2.2.1.trans (hp99.1.2.2.2.2.1.trans q92_4)) (hp111.1.2.2.2.2.2.1.trans (hp99.1.2.2.2.2.2.1.trans q92_5)) (hp111.1.2.2.2.2.2.2.1.trans (hp99.1.2.2.2.2.2.2.1.trans q92_6)) (hp111.1.2.2.2.2.2.2.2.1.trans (hp99.1.2.2.2.2.2.2.2.2.1.trans q92_7)) (hp111.1.2.2.2.2.2.2.2.2.1.trans (hp99.1.2.2.2.2.2.2.2.2.2.2.2.1.trans q92_8)) (hp111.1.2.2.2.2.2.2.2.2.2.1.trans (hp99.1.2.2.2.2.2.2.2.2.2.2.2.2.1.trans q92_9)) (by first | exact H215.1 | (have e := H75.resolve_left (fun q => by omega); exact v40_0.open_ (by omega) (by omega) (by omega) (by omega) (F75 277 (by omega)) (by omega) (by omega) e.2.2.2.1)) (by omega) (by have hm := hm_40 (); omega) hW (lv_sub hl [0] rfl)
                    refine x_aload_n hx hb hl 0 rfl dX11_readsCondition_161 rfl ?_
                    refine x_goi (x_runV (As := []) hx hb hml hown hT hE hW hl.1 (Or.inl (by decide)) (so_268 h0 g _) rfl cf_X11_here wq1391 wq106 wq1389 (c_X11_here l D g T h0 s_92 hW.2.1 q92_0 q92_1 q92_2 q92_3) ⟨rfl, rfl, ⟨by decide, by decide⟩, ⟨by decide, by decide⟩⟩ rfl rfl (Nat.le_of_ble_eq_true rfl) dX11_readsCondition_162) hW (fun x113 s114 H locs rx113 hp115 hW => ?_)
                    obtain ⟨es114, hp115⟩ := hp115
                    subst es114
                    have ghp115 := hp115
                    have C162 : x113 = zch f9 n9 (s_92 268 9) := by
                      have q8 := ghp115.1
                      rw [zhC_ch, show s_92 276 = s0 276 from hF_92 276 (by first | decide | omega), hf.1, show s_92 268 10 = n9 from by omega] at q8
                      exact q8
                    refine x_bipush hx hb dX11_readsCondition_165 (by decide) ?_
                    refine x_icmp_eq (tgt := 180) hx hb rx113 (by decide) dX11_readsCondition_167 (by decide) (fun c116 => ?_) (fun c116 => ?_)
                    · skip
                      refine x_aload_n hx hb hl 0 rfl dX11_readsCondition_180 rfl ?_
                      refine x_aload_n hx hb hl 0 rfl dX11_readsCondition_181 rfl ?_
                      refine x_goi (x_runV (As := []) hx hb hml hown hT hE hW hl.1 (Or.inl (by decide)) (so_268 h0 g _) rfl cf_X11_here wq1391 wq106 wq1389 (c_X11_here l D g T h0 s_92 hW.2.1 q92_0 q92_1 q92_2 q92_3) ⟨rfl, rfl, ⟨by decide, by decide⟩, ⟨by decide, by decide⟩⟩ rfl rfl (Nat.le_of_ble_eq_true rfl) dX11_readsCondition_182) hW (fun x117 s118 H locs rx117 hp119 hW => ?_)
                      obtain ⟨es118, hp119⟩ := hp119
                      subst es118
                      have ghp119 := hp119
                      have C182 : x117 = zch f9 n9 (s_92 268 9) := by
                        have q8 := ghp119.1
                        rw [zhC_ch, show s_92 276 = s0 276 from hF_92 276 (by first | decide | omega), hf.1, show s_92 268 10 = n9 from by omega] at q8
                        exact q8
                      refine x_bipush hx hb dX11_readsCondition_185 (by decide) ?_
                      refine x_icmp_ne (tgt := 194) hx hb rx117 (by decide) dX11_readsCondition_187 (by decide) (fun c120 => ?_) (fun c120 => ?_)
                      · skip
                        refine x_iconst hx hb dX11_readsCondition_194 ?_
                        refine x_gov (x_runV (As := [.int (xJ 0)]) hx hb hml hown hT hE hW hl.1 (Or.inl (by decide)) (so_268 h0 g _) rfl cf_X11_lands wq1527 wq128 wq1525 (c_X11_landsK l D g T h0 s_92 hW.2.1 0 (by decide) f9 n9 (s0 268 14) (zC0 f9 n9 (s0 268 9 + 1) (s0 268 14) (s0 277)) (by first | exact hf | exact ⟨by rw [hF_92 276 (by first | decide | omega)]; exact hf.1, by omega⟩) (v92_0) (by omega) q92_0 q92_1 q92_2 q92_3) ⟨rfl, rfl, ⟨by decide, by decide⟩, ⟨by decide, by decide⟩⟩ rfl rfl (Nat.le_of_ble_eq_true rfl) dX11_readsCondition_195) hW (fun s122 H locs hp123 hW => ?_)
                        obtain ⟨fs122, hp123⟩ := hp123
                        have hF124 := hF_92.call fs122 (fun k h => by omega)
                        have ghp123 := hp123.2
                        have H195 := ghp123
                        have b195 := H195.1.b
                        refine x_aload_n hx hb hl 0 rfl dX11_readsCondition_198 rfl ?_
                        refine x_aload_n hx hb hl 0 rfl dX11_readsCondition_199 rfl ?_
                        refine x_goi (x_runV (As := []) hx hb hml hown hT hE hW hl.1 (Or.inl (by decide)) (so_268 h0 g _) rfl cf_X11_here wq1391 wq106 wq1389 (c_X11_here l D g T h0 s122 hW.2.1 hp123.1.1 hp123.1.2.1 hp123.1.2.2.1 hp123.1.2.2.2.1) ⟨rfl, rfl, ⟨by decide, by decide⟩, ⟨by decide, by decide⟩⟩ rfl rfl (Nat.le_of_ble_eq_true rfl) dX11_readsCondition_200) hW (fun x125 s126 H locs rx125 hp127 hW => ?_)
                        obtain ⟨es126, hp127⟩ := hp127
                        subst es126
                        have ghp127 := hp127
                        have C200 : x125 = zch f9 n9 (s122 268 9) := by
                          have q8 := ghp127.1
                          rw [zhC_ch, show s122 276 = s0 276 from hF124 276 (by first | decide | omega), hf.1, show s122 268 10 = n9 from by omega] at q8
                          exact q8
                        rw [show s122 268 9 = s_92 268 9 from by omega] at C200
                        refine x_bipush hx hb dX11_readsCondition_203 (by decide) ?_
                        refine x_icmp_ne (tgt := 213) hx hb rx125 (by decide) dX11_readsCondition_205 (by decide) (fun c128 => ?_) (fun c128 => ?_)
                        · skip
                          refine x_bipush hx hb dX11_readsCondition_213 (by decide) ?_
                          refine x_gov (x_runV (As := [.int (xJ 12)]) hx hb hml hown hT hE hW hl.1 (Or.inl (by decide)) (so_268 h0 g _) rfl cf_X11_jumps wq1531 wq129 wq1529 (c_X11_jumpsK l D g T h0 s122 hW.2.1 12 (by decide) f9 n9 (s0 268 14) (zC0 f9 n9 (s0 268 9 + 1) (s0 268 14) (s0 277)) (by first | exact hf | exact ⟨by rw [hF124 276 (by first | decide | omega)]; exact hf.1, by omega⟩) (H195.1) (by rw [show s122 268 9 = s_92 268 9 from by omega]; omega) hp123.1.1 hp123.1.2.1 hp123.1.2.2.1 hp123.1.2.2.2.1) ⟨rfl, rfl, ⟨by decide, by decide⟩, ⟨by decide, by decide⟩⟩ rfl rfl (Nat.le_of_ble_eq_true rfl) dX11_readsCondition_215) hW (fun s130 H locs hp131 hW => ?_)
                          obtain ⟨fs130, hp131⟩ := hp131
                          have hF132 := hF124.call fs130 (fun k h => by omega)
                          have ghp131 := hp131.2
                          have H215 := ghp131
                          refine lv_goto (tgt := 40) hx hb dX11_readsCondition_218 (by decide) ?_
                          exact ih40 s130 H locs ls hF132 hp131.1.1 hp131.1.2.1 hp131.1.2.2.1 hp131.1.2.2.2.1 (hp131.1.2.2.2.2.1.trans (hp123.1.2.2.2.2.1.trans q92_4)) (hp131.1.2.2.2.2.2.1.trans (hp123.1.2.2.2.2.2.1.trans q92_5)) (hp131.1.2.2.2.2.2.2.1.trans (hp123.1.2.2.2.2.2.2.1.trans q92_6)) (hp131.1.2.2.2.2.2.2.2.1.trans (hp123.1.2.2.2.2.2.2.2.2.1.trans q92_7)) (hp131.1.2.2.2.2.2.2.2.2.1.trans (hp123.1.2.2.2.2.2.2.2.2.2.2.2.1.trans q92_8)) (hp131.1.2.2.2.2.2.2.2.2.2.1.trans (hp123.1.2.2.2.2.2.2.2.2.2.2.2.2.1.trans q92_9)) (by first | exact H215.1 | (have e := H75.resolve_left (fun q => by omega); exact v40_0.open_ (by omega) (by omega) (by omega) (by omega) (F75 277 (by omega)) (by omega) (by omega) e.2.2.2.1)) (by omega) (by have hm := hm_40 (); omega) hW (lv_sub hl [0] rfl)
                        refine x_bipush hx hb dX11_readsCondition_208 (by decide) ?_
                        refine lv_goto (tgt := 215) hx hb dX11_readsCondition_210 (by decide) ?_
                        refine x_gov (x_runV (As := [.int (xJ 11)]) hx hb hml hown hT hE hW hl.1 (Or.inl (by decide)) (so_268 h0 g _) rfl cf_X11_jumps wq1531 wq129 wq1529 (c_X11_jumpsK l D g T h0 s122 hW.2.1 11 (by decide) f9 n9 (s0 268 14) (zC0 f9 n9 (s0 268 9 + 1) (s0 268 14) (s0 277)) (by first | exact hf | exact ⟨by rw [hF124 276 (by first | decide | omega)]; exact hf.1, by omega⟩) (H195.1) (by rw [show s122 268 9 = s_92 268 9 from by omega]; omega) hp123.1.1 hp123.1.2.1 hp123.1.2.2.1 hp123.1.2.2.2.1) ⟨rfl, rfl, ⟨by decide, by decide⟩, ⟨by decide, by decide⟩⟩ rfl rfl (Nat.le_of_ble_eq_true rfl) dX11_readsCondition_215) hW (fun s134 H locs hp135 hW => ?_)
                        obtain ⟨fs134, hp135⟩ := hp135
                        have hF136 := hF124.call fs134 (fun k h => by omega)
                        have ghp135 := hp135.2
                        have H215 := ghp135
                        refine lv_goto (tgt := 40) hx hb dX11_readsCondition_218 (by decide) ?_
                        exact ih40 s134 H locs ls hF136 hp135.1.1 hp135.1.2.1 hp135.1.2.2.1 hp135.1.2.2.2.1 (hp135.1.2.2.2.2.1.trans (hp123.1.2.2.2.2.1.trans q92_4)) (hp135.1.2.2.2.2.2.1.trans (hp123.1.2.2.2.2.2.1.trans q92_5)) (hp135.1.2.2.2.2.2.2.1.trans (hp123.1.2.2.2.2.2.2.1.trans q92_6)) (hp135.1.2.2.2.2.2.2.2.1.trans (hp123.1.2.2.2.2.2.2.2.2.1.trans q92_7)) (hp135.1.2.2.2.2.2.2.2.2.1.trans (hp123.1.2.2.2.2.2.2.2.2.2.2.2.1.trans q92_8)) (hp135.1.2.2.2.2.2.2.2.2.2.1.trans (hp123.1.2.2.2.2.2.2.2.2.2.2.2.2.1.trans q92_9)) (by first | exact H215.1 | (have e := H75.resolve_left (fun q => by omega); exact v40_0.open_ (by omega) (by omega) (by omega) (by omega) (F75 277 (by omega)) (by omega) (by omega) e.2.2.2.1)) (by omega) (by have hm := hm_40 (); omega) hW (lv_sub hl [0] rfl)
                      refine x_iconst hx hb dX11_readsCondition_190 ?_
                      refine lv_goto (tgt := 195) hx hb dX11_readsCondition_191 (by decide) ?_
                      refine x_gov (x_runV (As := [.int (xJ 1)]) hx hb hml hown hT hE hW hl.1 (Or.inl (by decide)) (so_268 h0 g _) rfl cf_X11_lands wq1527 wq128 wq1525 (c_X11_landsK l D g T h0 s_92 hW.2.1 1 (by decide) f9 n9 (s0 268 14) (zC0 f9 n9 (s0 268 9 + 1) (s0 268 14) (s0 277)) (by first | exact hf | exact ⟨by rw [hF_92 276 (by first | decide | omega)]; exact hf.1, by omega⟩) (v92_0) (by omega) q92_0 q92_1 q92_2 q92_3) ⟨rfl, rfl, ⟨by decide, by decide⟩, ⟨by decide, by decide⟩⟩ rfl rfl (Nat.le_of_ble_eq_true rfl) dX11_readsCondition_195) hW (fun s138 H locs hp139 hW => ?_)
                      obtain ⟨fs138, hp139⟩ := hp139
                      have hF140 := hF_92.call fs138 (fun k h => by omega)
                      have ghp139 := hp139.2
                      have H195 := ghp139
                      have b195 := H195.1.b
                      refine x_aload_n hx hb hl 0 rfl dX11_readsCondition_198 rfl ?_
                      refine x_aload_n hx hb hl 0 rfl dX11_readsCondition_199 rfl ?_
                      refine x_goi (x_runV (As := []) hx hb hml hown hT hE hW hl.1 (Or.inl (by decide)) (so_268 h0 g _) rfl cf_X11_here wq1391 wq106 wq1389 (c_X11_here l D g T h0 s138 hW.2.1 hp139.1.1 hp139.1.2.1 hp139.1.2.2.1 hp139.1.2.2.2.1) ⟨rfl, rfl, ⟨by decide, by decide⟩, ⟨by decide, by decide⟩⟩ rfl rfl (Nat.le_of_ble_eq_true rfl) dX11_readsCondition_200) hW (fun x141 s142 H locs rx141 hp143 hW => ?_)
                      obtain ⟨es142, hp143⟩ := hp143
                      subst es142
                      have ghp143 := hp143
                      have C200 : x141 = zch f9 n9 (s138 268 9) := by
                        have q8 := ghp143.1
                        rw [zhC_ch, show s138 276 = s0 276 from hF140 276 (by first | decide | omega), hf.1, show s138 268 10 = n9 from by omega] at q8
                        exact q8
                      rw [show s138 268 9 = s_92 268 9 from by omega] at C200
                      refine x_bipush hx hb dX11_readsCondition_203 (by decide) ?_
                      refine x_icmp_ne (tgt := 213) hx hb rx141 (by decide) dX11_readsCondition_205 (by decide) (fun c144 => ?_) (fun c144 => ?_)
                      · skip
                        refine x_bipush hx hb dX11_readsCondition_213 (by decide) ?_
                        refine x_gov (x_runV (As := [.int (xJ 12)]) hx hb hml hown hT hE hW hl.1 (Or.inl (by decide)) (so_268 h0 g _) rfl cf_X11_jumps wq1531 wq129 wq1529 (c_X11_jumpsK l D g T h0 s138 hW.2.1 12 (by decide) f9 n9 (s0 268 14) (zC0 f9 n9 (s0 268 9 + 1) (s0 268 14) (s0 277)) (by first | exact hf | exact ⟨by rw [hF140 276 (by first | decide | omega)]; exact hf.1, by omega⟩) (H195.1) (by rw [show s138 268 9 = s_92 268 9 from by omega]; omega) hp139.1.1 hp139.1.2.1 hp139.1.2.2.1 hp139.1.2.2.2.1) ⟨rfl, rfl, ⟨by decide, by decide⟩, ⟨by decide, by decide⟩⟩ rfl rfl (Nat.le_of_ble_eq_true rfl) dX11_readsCondition_215) hW (fun s146 H locs hp147 hW => ?_)
                        obtain ⟨fs146, hp147⟩ := hp147
                        have hF148 := hF140.call fs146 (fun k h => by omega)
                        have ghp147 := hp147.2
                        have H215 := ghp147
                        refine lv_goto (tgt := 40) hx hb dX11_readsCondition_218 (by decide) ?_
                        exact ih40 s146 H locs ls hF148 hp147.1.1 hp147.1.2.1 hp147.1.2.2.1 hp147.1.2.2.2.1 (hp147.1.2.2.2.2.1.trans (hp139.1.2.2.2.2.1.trans q92_4)) (hp147.1.2.2.2.2.2.1.trans (hp139.1.2.2.2.2.2.1.trans q92_5)) (hp147.1.2.2.2.2.2.2.1.trans (hp139.1.2.2.2.2.2.2.1.trans q92_6)) (hp147.1.2.2.2.2.2.2.2.1.trans (hp139.1.2.2.2.2.2.2.2.2.1.trans q92_7)) (hp147.1.2.2.2.2.2.2.2.2.1.trans (hp139.1.2.2.2.2.2.2.2.2.2.2.2.1.trans q92_8)) (hp147.1.2.2.2.2.2.2.2.2.2.1.trans (hp139.1.2.2.2.2.2.2.2.2.2.2.2.2.1.trans q92_9)) (by first | exact H215.1 | (have e := H75.resolve_left (fun q => by omega); exact v40_0.open_ (by omega) (by omega) (by omega) (by omega) (F75 277 (by omega)) (by omega) (by omega) e.2.2.2.1)) (by omega) (by have hm := hm_40 (); omega) hW (lv_sub hl [0] rfl)
                      refine x_bipush hx hb dX11_readsCondition_208 (by decide) ?_
                      refine lv_goto (tgt := 215) hx hb dX11_readsCondition_210 (by decide) ?_
                      refine x_gov (x_runV (As := [.int (xJ 11)]) hx hb hml hown hT hE hW hl.1 (Or.inl (by decide)) (so_268 h0 g _) rfl cf_X11_jumps wq1531 wq129 wq1529 (c_X11_jumpsK l D g T h0 s138 hW.2.1 11 (by decide) f9 n9 (s0 268 14) (zC0 f9 n9 (s0 268 9 + 1) (s0 268 14) (s0 277)) (by first | exact hf | exact ⟨by rw [hF140 276 (by first | decide | omega)]; exact hf.1, by omega⟩) (H195.1) (by rw [show s138 268 9 = s_92 268 9 from by omega]; omega) hp139.1.1 hp139.1.2.1 hp139.1.2.2.1 hp139.1.2.2.2.1) ⟨rfl, rfl, ⟨by decide, by decide⟩, ⟨by decide, by decide⟩⟩ rfl rfl (Nat.le_of_ble_eq_true rfl) dX11_readsCondition_215) hW (fun s150 H locs hp151 hW => ?_)
                      obtain ⟨fs150, hp151⟩ := hp151
                      have hF152 := hF140.call fs150 (fun k h => by omega)
                      have ghp151 := hp151.2
                      have H215 := ghp151
                      refine lv_goto (tgt := 40) hx hb dX11_readsCondition_218 (by decide) ?_
                      exact ih40 s150 H locs ls hF152 hp151.1.1 hp151.1.2.1 hp151.1.2.2.1 hp151.1.2.2.2.1 (hp151.1.2.2.2.2.1.trans (hp139.1.2.2.2.2.1.trans q92_4)) (hp151.1.2.2.2.2.2.1.trans (hp139.1.2.2.2.2.2.1.trans q92_5)) (hp151.1.2.2.2.2.2.2.1.trans (hp139.1.2.2.2.2.2.2.1.trans q92_6)) (hp151.1.2.2.2.2.2.2.2.1.trans (hp139.1.2.2.2.2.2.2.2.2.1.trans q92_7)) (hp151.1.2.2.2.2.2.2.2.2.1.trans (hp139.1.2.2.2.2.2.2.2.2.2.2.2.1.trans q92_8)) (hp151.1.2.2.2.2.2.2.2.2.2.1.trans (hp139.1.2.2.2.2.2.2.2.2.2.2.2.2.1.trans q92_9)) (by first | exact H215.1 | (have e := H75.resolve_left (fun q => by omega); exact v40_0.open_ (by omega) (by omega) (by omega) (by omega) (F75 277 (by omega)) (by omega) (by omega) e.2.2.2.1)) (by omega) (by have hm := hm_40 (); omega) hW (lv_sub hl [0] rfl)
                    refine x_aload_n hx hb hl 0 rfl dX11_readsCondition_170 rfl ?_
                    refine x_iconst hx hb dX11_readsCondition_171 ?_
                    refine x_aload_n hx hb hl 0 rfl dX11_readsCondition_172 rfl ?_
                    refine x_get (j := 9) (v := .int (xJ (s_92 268 9))) hx hb hown hT hE hW cls_X11 (Or.inl (by decide)) (so_268 h0 g _) (by decide) rfl wq1194 dX11_readsCondition_173 ?_
                    refine x_rd hW (fun x153 ex153 rx153 => ?_)
                    have bx153 : 0 ≤ x153 ∧ x153 ≤ s_92 268 10 ∧ s_92 268 10 ≤ 240 := by rw [ex153]; exact q92_3
                    have q154 : s_92 268 9 = x153 := ex153.symm
                    refine x_goi (x_runV (As := [.int (xJ 1), .int (xJ x153)]) hx hb hml hown hT hE hW hl.1 (Or.inl (by decide)) (so_268 h0 g _) rfl cf_X11_wrongAt wq1401 wq107 wq1399 (c_X11_wrongAtK l D g T h0 s_92 hW.2.1 1 (by decide) x153 rx153 (by omega) q92_0 q92_1 q92_2 q92_3) ⟨rfl, rfl, ⟨by decide, by decide⟩, ⟨by decide, by decide⟩⟩ rfl rfl (Nat.le_of_ble_eq_true rfl) dX11_readsCondition_176) hW (fun x155 s156 H locs rx155 hp157 hW => ?_)
                    obtain ⟨fs156, hp157⟩ := hp157
                    have hF158 := hF_92.call fs156 (fun k h => by omega)
                    have ghp157 := hp157.2
                    rw [eQ]
                    exact x_zret hx hb hr hlk hW (by omega) ⟨hF158, ⟨hp157.1.1, hp157.1.2.1, hp157.1.2.2.1, hp157.1.2.2.2.1, (hp157.1.2.2.2.2.1.trans q92_4), (hp157.1.2.2.2.2.2.1.trans q92_5), (hp157.1.2.2.2.2.2.2.1.trans q92_6), (hp157.1.2.2.2.2.2.2.2.2.1.trans q92_7), (hp157.1.2.2.2.2.2.2.2.2.2.2.2.2.1.trans q92_8), (hp157.1.2.2.2.2.2.2.2.2.2.2.2.2.2.1.trans q92_9), trivial⟩, by
                        have z := v92_0.bad v92_1.2 (by omega) (by omega) (by omega)
                        rw [z2]
                        exact Or.inl ⟨by omega, by omega, by omega⟩⟩ dX11_readsCondition_179
                  refine x_aload_n hx hb hl 0 rfl dX11_readsCondition_101 rfl ?_
                  refine x_iconst hx hb dX11_readsCondition_102 ?_
                  refine x_gov (x_runV (As := [.int (xJ 1)]) hx hb hml hown hT hE hW hl.1 (Or.inl (by decide)) (so_268 h0 g _) rfl cf_X11_lands wq1527 wq128 wq1525 (c_X11_landsK l D g T h0 s_92 hW.2.1 1 (by decide) f9 n9 (s0 268 14) (zC0 f9 n9 (s0 268 9 + 1) (s0 268 14) (s0 277)) (by first | exact hf | exact ⟨by rw [hF_92 276 (by first | decide | omega)]; exact hf.1, by omega⟩) (v92_0) (⟨Or.inr ⟨rfl, by omega⟩, by omega, by omega⟩) q92_0 q92_1 q92_2 q92_3) ⟨rfl, rfl, ⟨by decide, by decide⟩, ⟨by decide, by decide⟩⟩ rfl rfl (Nat.le_of_ble_eq_true rfl) dX11_readsCondition_103) hW (fun s160 H locs hp161 hW => ?_)
                  obtain ⟨fs160, hp161⟩ := hp161
                  have hF162 := hF_92.call fs160 (fun k h => by omega)
                  have ghp161 := hp161.2
                  have H103 := ghp161
                  have b103 := H103.1.b
                  have o103 := H103.1.o
                  refine x_aload_n hx hb hl 0 rfl dX11_readsCondition_106 rfl ?_
                  refine x_aload_n hx hb hl 0 rfl dX11_readsCondition_107 rfl ?_
                  refine x_get (j := 15) (v := .int (xJ (s160 268 15))) hx hb hown hT hE hW cls_X11 (Or.inl (by decide)) (so_268 h0 g _) (by decide) rfl wq1200 dX11_readsCondition_108 ?_
                  refine x_rd hW (fun x163 ex163 rx163 => ?_)
                  have q164 : s160 268 15 = x163 := ex163.symm
                  refine x_iconst hx hb dX11_readsCondition_111 ?_
                  refine x_isub hx hb dX11_readsCondition_112 ?_
                  refine x_put (j := 15) hx hb hown hT hE hW cls_X11 (by decide) (fun σ => so_268 h0 g σ) (by decide) (st_X11_15 h0 s160 268 (x163 - 1)) (ln_X11_15 h0 _ _) wq1200 rfl rfl rfl (by omega) dX11_readsCondition_113 (fun H locs s165 es165 hW => ?_)
                  have q166 : IMn s165 := by rw [es165]; exact IMn_268 hp161.1.1 (by omega)
                  have q167 : IMk s165 := by rw [es165]; exact IMk_268 hp161.1.2.1 (by omega)
                  have q168 : IMo s165 := by rw [es165]; exact IMo_o (by unfold suIMo; first | decide | omega) hp161.1.2.2.1
                  have q169 : IR s165 := by rw [es165]; exact IR_268 hp161.1.2.2.2.1 (by omega)
                  have q170 : s165 268 8 = s0 268 8 := (show s165 268 8 = s160 268 8 from by rw [es165, xU_j _ _ (by decide)]).trans (hp161.1.2.2.2.2.1.trans q92_4)
                  have q171 : s165 268 58 = s0 268 58 := (show s165 268 58 = s160 268 58 from by rw [es165, xU_j _ _ (by decide)]).trans (hp161.1.2.2.2.2.2.1.trans q92_5)
                  have q172 : s165 268 17 = s0 268 17 := (show s165 268 17 = s160 268 17 from by rw [es165, xU_j _ _ (by decide)]).trans (hp161.1.2.2.2.2.2.2.1.trans q92_6)
                  have q173 : s165 268 9 = s_92 268 9 := (show s165 268 9 = s160 268 9 from by rw [es165, xU_j _ _ (by decide)]).trans hp161.1.2.2.2.2.2.2.2.1
                  have q174 : s165 268 10 = s0 268 10 := (show s165 268 10 = s160 268 10 from by rw [es165, xU_j _ _ (by decide)]).trans (hp161.1.2.2.2.2.2.2.2.2.1.trans q92_7)
                  have q175 : s165 268 13 = s_92 268 13 := (show s165 268 13 = s160 268 13 from by rw [es165, xU_j _ _ (by decide)]).trans hp161.1.2.2.2.2.2.2.2.2.2.1
                  have q176 : s165 268 14 = s_92 268 14 := (show s165 268 14 = s160 268 14 from by rw [es165, xU_j _ _ (by decide)]).trans hp161.1.2.2.2.2.2.2.2.2.2.2.1
                  have q177 : s165 268 16 = s0 268 16 := (show s165 268 16 = s160 268 16 from by rw [es165, xU_j _ _ (by decide)]).trans (hp161.1.2.2.2.2.2.2.2.2.2.2.2.1.trans q92_8)
                  have q178 : s165 268 48 = s0 268 48 := (show s165 268 48 = s160 268 48 from by rw [es165, xU_j _ _ (by decide)]).trans (hp161.1.2.2.2.2.2.2.2.2.2.2.2.2.1.trans q92_9)
                  have q179 : s165 268 15 = (x163 - 1) := by rw [es165, xU_s]
                  have hF180 := hF162.put es165 (by omega)
                  have E113 := es165
                  refine x_aload_n hx hb hl 0 rfl dX11_readsCondition_116 rfl ?_
                  refine x_aload_n hx hb hl 0 rfl dX11_readsCondition_117 rfl ?_
                  refine x_get (j := 13) (v := .int (xJ (s165 268 13))) hx hb hown hT hE hW cls_X11 (Or.inl (by decide)) (so_268 h0 g _) (by decide) rfl wq1198 dX11_readsCondition_118 ?_
                  refine x_rd hW (fun x181 ex181 rx181 => ?_)
                  have fx181 : x181 = s_92 268 13 := ex181.trans q175
                  refine x_iconst hx hb dX11_readsCondition_121 ?_
                  refine x_isub hx hb dX11_readsCondition_122 ?_
                  refine x_put (j := 13) hx hb hown hT hE hW cls_X11 (by decide) (fun σ => so_268 h0 g σ) (by decide) (st_X11_13 h0 s165 268 (x181 - 1)) (ln_X11_13 h0 _ _) wq1198 rfl rfl rfl (by omega) dX11_readsCondition_123 (fun H locs s182 es182 hW => ?_)
                  have q183 : IMn s182 := by rw [es182]; exact IMn_268 q166 (by omega)
                  have q184 : IMk s182 := by rw [es182]; exact IMk_268 q167 (by omega)
                  have q185 : IMo s182 := by rw [es182]; exact IMo_o (by unfold suIMo; first | decide | omega) q168
                  have q186 : IR s182 := by rw [es182]; exact IR_268 q169 (by omega)
                  have q187 : s182 268 8 = s0 268 8 := (show s182 268 8 = s165 268 8 from by rw [es182, xU_j _ _ (by decide)]).trans q170
                  have q188 : s182 268 58 = s0 268 58 := (show s182 268 58 = s165 268 58 from by rw [es182, xU_j _ _ (by decide)]).trans q171
                  have q189 : s182 268 17 = s0 268 17 := (show s182 268 17 = s165 268 17 from by rw [es182, xU_j _ _ (by decide)]).trans q172
                  have q190 : s182 268 9 = s_92 268 9 := (show s182 268 9 = s165 268 9 from by rw [es182, xU_j _ _ (by decide)]).trans q173
                  have q191 : s182 268 10 = s0 268 10 := (show s182 268 10 = s165 268 10 from by rw [es182, xU_j _ _ (by decide)]).trans q174
                  have q192 : s182 268 13 = (x181 - 1) := by rw [es182, xU_s]
                  have q193 : s182 268 14 = s_92 268 14 := (show s182 268 14 = s165 268 14 from by rw [es182, xU_j _ _ (by decide)]).trans q176
                  have q194 : s182 268 16 = s0 268 16 := (show s182 268 16 = s165 268 16 from by rw [es182, xU_j _ _ (by decide)]).trans q177
                  have q195 : s182 268 48 = s0 268 48 := (show s182 268 48 = s165 268 48 from by rw [es182, xU_j _ _ (by decide)]).trans q178
                  have q196 : s182 268 15 = (x163 - 1) := (show s182 268 15 = s165 268 15 from by rw [es182, xU_j _ _ (by decide)]).trans q179
                  have hF197 := hF180.put es182 (by omega)
                  have E123 := es182
                  refine x_aload_n hx hb hl 0 rfl dX11_readsCondition_126 rfl ?_
                  refine x_aload_n hx hb hl 0 rfl dX11_readsCondition_127 rfl ?_
                  refine x_get (j := 9) (v := .int (xJ (s182 268 9))) hx hb hown hT hE hW cls_X11 (Or.inl (by decide)) (so_268 h0 g _) (by decide) rfl wq1194 dX11_readsCondition_128 ?_
                  refine x_rd hW (fun x198 ex198 rx198 => ?_)
                  have bx198 : 0 ≤ x198 ∧ x198 ≤ s182 268 10 ∧ s182 268 10 ≤ 240 := by rw [ex198]; exact q186
                  have fx198 : x198 = s_92 268 9 := ex198.trans q190
                  refine x_iconst hx hb dX11_readsCondition_131 ?_
                  refine x_iadd hx hb dX11_readsCondition_132 ?_
                  refine x_put (j := 9) hx hb hown hT hE hW cls_X11 (by decide) (fun σ => so_268 h0 g σ) (by decide) (st_X11_9 h0 s182 268 (x198 + 1)) (ln_X11_9 h0 _ _) wq1194 rfl rfl rfl (by omega) dX11_readsCondition_133 (fun H locs s199 es199 hW => ?_)
                  have q200 : IMn s199 := by rw [es199]; exact IMn_268 q183 (by omega)
                  have q201 : IMk s199 := by rw [es199]; exact IMk_268 q184 (by omega)
                  have q202 : IMo s199 := by rw [es199]; exact IMo_o (by unfold suIMo; first | decide | omega) q185
                  have q203 : IR s199 := by rw [es199]; exact IR_268 q186 (by omega)
                  have q204 : s199 268 8 = s0 268 8 := (show s199 268 8 = s182 268 8 from by rw [es199, xU_j _ _ (by decide)]).trans q187
                  have q205 : s199 268 58 = s0 268 58 := (show s199 268 58 = s182 268 58 from by rw [es199, xU_j _ _ (by decide)]).trans q188
                  have q206 : s199 268 17 = s0 268 17 := (show s199 268 17 = s182 268 17 from by rw [es199, xU_j _ _ (by decide)]).trans q189
                  have q207 : s199 268 9 = (x198 + 1) := by rw [es199, xU_s]
                  have q208 : s199 268 10 = s0 268 10 := (show s199 268 10 = s182 268 10 from by rw [es199, xU_j _ _ (by decide)]).trans q191
                  have q209 : s199 268 13 = (x181 - 1) := (show s199 268 13 = s182 268 13 from by rw [es199, xU_j _ _ (by decide)]).trans q192
                  have q210 : s199 268 14 = s_92 268 14 := (show s199 268 14 = s182 268 14 from by rw [es199, xU_j _ _ (by decide)]).trans q193
                  have q211 : s199 268 16 = s0 268 16 := (show s199 268 16 = s182 268 16 from by rw [es199, xU_j _ _ (by decide)]).trans q194
                  have q212 : s199 268 48 = s0 268 48 := (show s199 268 48 = s182 268 48 from by rw [es199, xU_j _ _ (by decide)]).trans q195
                  have q213 : s199 268 15 = (x163 - 1) := (show s199 268 15 = s182 268 15 from by rw [es199, xU_j _ _ (by decide)]).trans q196
                  have hF214 := hF197.put es199 (by omega)
                  have E133 := es199
                  have X133 : zCQ f9 n9 (s0 268 14) (zC0 f9 n9 (s0 268 9 + 1) (s0 268 14) (s0 277)) false s199 := H103.1.shut (by omega) (by rw [show s160 268 9 = s_92 268 9 from by omega]; omega) (by omega) (by omega) (by rw [E133, xU_k _ _ _ (by first | decide | omega), E123, xU_k _ _ _ (by first | decide | omega), E113, xU_k _ _ _ (by first | decide | omega)]) (by omega) (by omega) (by rw [E133, xU_k _ _ _ (by first | decide | omega), E123, xU_k _ _ _ (by first | decide | omega), E113, xU_k _ _ _ (by first | decide | omega)])
                  refine x_aload_n hx hb hl 0 rfl dX11_readsCondition_136 rfl ?_
                  refine x_get (j := 15) (v := .int (xJ (s199 268 15))) hx hb hown hT hE hW cls_X11 (Or.inl (by decide)) (so_268 h0 g _) (by decide) rfl wq1200 dX11_readsCondition_137 ?_
                  refine x_rd hW (fun x215 ex215 rx215 => ?_)
                  have fx215 : x215 = (x163 - 1) := ex215.trans q213
                  refine x_if_ne (tgt := 145) hx hb rx215 dX11_readsCondition_140 (by decide) (fun c216 => ?_) (fun c216 => ?_)
                  · skip
                    refine x_aload_n hx hb hl 0 rfl dX11_readsCondition_145 rfl ?_
                    refine x_gov (x_runV (As := []) hx hb hml hown hT hE hW hl.1 (Or.inl (by decide)) (so_268 h0 g _) rfl cf_X11_endsPiece wq1523 wq127 wq1521 (c_X11_endsPieceK l D g T h0 s199 hW.2.1 f9 n9 (s0 268 14) (zC0 f9 n9 (s0 268 9 + 1) (s0 268 14) (s0 277)) (by first | exact hf | exact ⟨by rw [hF214 276 (by first | decide | omega)]; exact hf.1, by omega⟩) (X133) (by have y := X133.b; omega) q200 q201 q202 q203) ⟨rfl, rfl, ⟨by decide, by decide⟩, ⟨by decide, by decide⟩⟩ rfl rfl (Nat.le_of_ble_eq_true rfl) dX11_readsCondition_146) hW (fun s218 H locs hp219 hW => ?_)
                    obtain ⟨fs218, hp219⟩ := hp219
                    have hF220 := hF214.call fs218 (fun k h => by omega)
                    have ghp219 := hp219.2
                    have H146 := ghp219
                    refine lv_goto (tgt := 92) hx hb dX11_readsCondition_149 (by decide) ?_
                    exact ih92 s218 H locs ls hF220 hp219.1.1 hp219.1.2.1 hp219.1.2.2.1 hp219.1.2.2.2.1 (hp219.1.2.2.2.2.1.trans q204) (hp219.1.2.2.2.2.2.1.trans q205) (hp219.1.2.2.2.2.2.2.1.trans q206) (hp219.1.2.2.2.2.2.2.2.2.1.trans q208) (hp219.1.2.2.2.2.2.2.2.2.2.1.trans q211) (hp219.1.2.2.2.2.2.2.2.2.2.2.1.trans q212) (H146.1) (⟨H146.2.1, H146.2.2⟩) (by omega) (by have hm := hm_92 (); omega) hW (lv_sub hl [0] rfl)
                  refine x_iconst hx hb dX11_readsCondition_143 ?_
                  rw [eQ]
                  exact x_zret hx hb hr hlk hW (by omega) ⟨hF214, ⟨q200, q201, q202, q203, q204, q205, q206, q208, q211, q212, trivial⟩, by
                      have z := X133.fin (by omega)
                      rw [z2, z]
                      exact Or.inr ⟨by omega, rfl, by omega⟩⟩ dX11_readsCondition_144
              exact L92 ((241 - s65 268 9 : Int).toNat + 1) s65 H locs ls hF67 hp66.1.1 hp66.1.2.1 hp66.1.2.2.1 hp66.1.2.2.2.1 (hp66.1.2.2.2.2.1.trans q40_4) (hp66.1.2.2.2.2.2.1.trans q40_5) (hp66.1.2.2.2.2.2.2.1.trans q40_6) (hp66.1.2.2.2.2.2.2.2.1.trans q40_7) (hp66.1.2.2.2.2.2.2.2.2.1.trans q40_9) (hp66.1.2.2.2.2.2.2.2.2.2.1.trans q40_10) ((H84.resolve_left (fun q => by omega)).2.1) (⟨(H84.resolve_left (fun q => by omega)).2.2.1, (H84.resolve_left (fun q => by omega)).2.2.2.1⟩) (by omega) (Nat.lt_succ_self _) hW (lv_sub hl [0] rfl)
            refine x_iconst hx hb dX11_readsCondition_90 ?_
            rw [eQ]
            exact x_zret hx hb hr hlk hW (by omega) ⟨hF67, ⟨hp66.1.1, hp66.1.2.1, hp66.1.2.2.1, hp66.1.2.2.2.1, (hp66.1.2.2.2.2.1.trans q40_4), (hp66.1.2.2.2.2.2.1.trans q40_5), (hp66.1.2.2.2.2.2.2.1.trans q40_6), (hp66.1.2.2.2.2.2.2.2.1.trans q40_7), (hp66.1.2.2.2.2.2.2.2.2.1.trans q40_9), (hp66.1.2.2.2.2.2.2.2.2.2.1.trans q40_10), trivial⟩, by
                have e := H84.resolve_right (fun q => by omega)
                rw [z2]
                exact Or.inl ⟨by omega, e.2.1, e.2.2⟩⟩ dX11_readsCondition_91
          refine x_aload_n hx hb hl 0 rfl dX11_readsCondition_58 rfl ?_
          refine x_aload_n hx hb hl 0 rfl dX11_readsCondition_59 rfl ?_
          refine x_goi (x_runV (As := []) hx hb hml hown hT hE hW hl.1 (Or.inl (by decide)) (so_268 h0 g _) rfl cf_X11_here wq1391 wq106 wq1389 (c_X11_here l D g T h0 s_40 hW.2.1 q40_0 q40_1 q40_2 q40_3) ⟨rfl, rfl, ⟨by decide, by decide⟩, ⟨by decide, by decide⟩⟩ rfl rfl (Nat.le_of_ble_eq_true rfl) dX11_readsCondition_60) hW (fun x221 s222 H locs rx221 hp223 hW => ?_)
          obtain ⟨es222, hp223⟩ := hp223
          subst es222
          have ghp223 := hp223
          have C60 : x221 = zch f9 n9 (s_40 268 9) := by
            have q8 := ghp223.1
            rw [zhC_ch, show s_40 276 = s0 276 from hF_40 276 (by first | decide | omega), hf.1, show s_40 268 10 = n9 from by omega] at q8
            exact q8
          refine x_bipush hx hb dX11_readsCondition_63 (by decide) ?_
          refine x_icmp_ne (tgt := 73) hx hb rx221 (by decide) dX11_readsCondition_65 (by decide) (fun c224 => ?_) (fun c224 => ?_)
          · skip
            refine x_bipush hx hb dX11_readsCondition_73 (by decide) ?_
            refine x_goi (x_runV (As := [.int (xJ 13)]) hx hb hml hown hT hE hW hl.1 (Or.inl (by decide)) (so_268 h0 g _) rfl cf_X11_opens wq1480 wq118 wq1478 (c_X11_opensK l D g T h0 s_40 hW.2.1 13 (by decide) (by omega) (by omega) (by omega) (by omega) q40_0 q40_1 q40_2 q40_3) ⟨rfl, rfl, ⟨by decide, by decide⟩, ⟨by decide, by decide⟩⟩ rfl rfl (Nat.le_of_ble_eq_true rfl) dX11_readsCondition_75) hW (fun x225 s226 H locs rx225 hp227 hW => ?_)
            obtain ⟨fs226, hp227⟩ := hp227
            have hF228 := hF_40.call fs226 (fun k h => by omega)
            have ghp227 := hp227.2
            have H75 := ghp227
            have F75 := fs226
            refine x_if_ne (tgt := 40) hx hb rx225 dX11_readsCondition_78 (by decide) (fun c229 => ?_) (fun c229 => ?_)
            · skip
              exact ih40 s226 H locs ls hF228 hp227.1.1 hp227.1.2.1 hp227.1.2.2.1 hp227.1.2.2.2.1 (hp227.1.2.2.2.2.1.trans q40_4) (hp227.1.2.2.2.2.2.1.trans q40_5) (hp227.1.2.2.2.2.2.2.1.trans q40_6) (hp227.1.2.2.2.2.2.2.2.1.trans q40_7) (hp227.1.2.2.2.2.2.2.2.2.2.1.trans q40_9) (hp227.1.2.2.2.2.2.2.2.2.2.2.1.trans q40_10) (by first | exact H215.1 | (have e := H75.resolve_left (fun q => by omega); exact v40_0.open_ (by omega) (by omega) (by omega) (by omega) (F75 277 (by omega)) (by omega) (by omega) e.2.2.2.1)) (by omega) (by have hm := hm_40 (); omega) hW (lv_sub hl [0] rfl)
            refine x_iconst hx hb dX11_readsCondition_81 ?_
            rw [eQ]
            exact x_zret hx hb hr hlk hW (by omega) ⟨hF228, ⟨hp227.1.1, hp227.1.2.1, hp227.1.2.2.1, hp227.1.2.2.2.1, (hp227.1.2.2.2.2.1.trans q40_4), (hp227.1.2.2.2.2.2.1.trans q40_5), (hp227.1.2.2.2.2.2.2.1.trans q40_6), (hp227.1.2.2.2.2.2.2.2.1.trans q40_7), (hp227.1.2.2.2.2.2.2.2.2.2.1.trans q40_9), (hp227.1.2.2.2.2.2.2.2.2.2.2.1.trans q40_10), trivial⟩, by
                have e := H75.resolve_right (fun q => by omega)
                have z := v40_0.1.five (by omega) (by rw [← v40_0.2.2.1]; omega)
                rw [z2, z]
                exact Or.inl ⟨by omega, (by show (-5000 - _ : Int) ≠ 0; omega), (by show _ = (-5000 - _ : Int); omega)⟩⟩ dX11_readsCondition_82
          refine x_bipush hx hb dX11_readsCondition_68 (by decide) ?_
          refine lv_goto (tgt := 75) hx hb dX11_readsCondition_70 (by decide) ?_
          refine x_goi (x_runV (As := [.int (xJ 10)]) hx hb hml hown hT hE hW hl.1 (Or.inl (by decide)) (so_268 h0 g _) rfl cf_X11_opens wq1480 wq118 wq1478 (c_X11_opensK l D g T h0 s_40 hW.2.1 10 (by decide) (by omega) (by omega) (by omega) (by omega) q40_0 q40_1 q40_2 q40_3) ⟨rfl, rfl, ⟨by decide, by decide⟩, ⟨by decide, by decide⟩⟩ rfl rfl (Nat.le_of_ble_eq_true rfl) dX11_readsCondition_75) hW (fun x230 s231 H locs rx230 hp232 hW => ?_)
          obtain ⟨fs231, hp232⟩ := hp232
          have hF233 := hF_40.call fs231 (fun k h => by omega)
          have ghp232 := hp232.2
          have H75 := ghp232
          have F75 := fs231
          refine x_if_ne (tgt := 40) hx hb rx230 dX11_readsCondition_78 (by decide) (fun c234 => ?_) (fun c234 => ?_)
          · skip
            exact ih40 s231 H locs ls hF233 hp232.1.1 hp232.1.2.1 hp232.1.2.2.1 hp232.1.2.2.2.1 (hp232.1.2.2.2.2.1.trans q40_4) (hp232.1.2.2.2.2.2.1.trans q40_5) (hp232.1.2.2.2.2.2.2.1.trans q40_6) (hp232.1.2.2.2.2.2.2.2.1.trans q40_7) (hp232.1.2.2.2.2.2.2.2.2.2.1.trans q40_9) (hp232.1.2.2.2.2.2.2.2.2.2.2.1.trans q40_10) (by first | exact H215.1 | (have e := H75.resolve_left (fun q => by omega); exact v40_0.open_ (by omega) (by omega) (by omega) (by omega) (F75 277 (by omega)) (by omega) (by omega) e.2.2.2.1)) (by omega) (by have hm := hm_40 (); omega) hW (lv_sub hl [0] rfl)
          refine x_iconst hx hb dX11_readsCondition_81 ?_
          rw [eQ]
          exact x_zret hx hb hr hlk hW (by omega) ⟨hF233, ⟨hp232.1.1, hp232.1.2.1, hp232.1.2.2.1, hp232.1.2.2.2.1, (hp232.1.2.2.2.2.1.trans q40_4), (hp232.1.2.2.2.2.2.1.trans q40_5), (hp232.1.2.2.2.2.2.2.1.trans q40_6), (hp232.1.2.2.2.2.2.2.2.1.trans q40_7), (hp232.1.2.2.2.2.2.2.2.2.2.1.trans q40_9), (hp232.1.2.2.2.2.2.2.2.2.2.2.1.trans q40_10), trivial⟩, by
              have e := H75.resolve_right (fun q => by omega)
              have z := v40_0.1.five (by omega) (by rw [← v40_0.2.2.1]; omega)
              rw [z2, z]
              exact Or.inl ⟨by omega, (by show (-5000 - _ : Int) ≠ 0; omega), (by show _ = (-5000 - _ : Int); omega)⟩⟩ dX11_readsCondition_82
      exact L40 ((241 - s38 268 9 : Int).toNat + 1) s38 H locs ls hF40 hp39.1.1 hp39.1.2.1 hp39.1.2.2.1 hp39.1.2.2.2.1 (hp39.1.2.2.2.2.1.trans q26) (hp39.1.2.2.2.2.2.1.trans q27) (hp39.1.2.2.2.2.2.2.1.trans q28) (hp39.1.2.2.2.2.2.2.2.1.trans q29) (hp39.1.2.2.2.2.2.2.2.2.2.1.trans q30) (hp39.1.2.2.2.2.2.2.2.2.2.2.1.trans q31) (Z32 (by omega)) (by omega) (Nat.lt_succ_self _) hW (lv_sub hl [0] rfl)
    refine x_iconst hx hb dX11_readsCondition_38 ?_
    rw [eQ]
    exact x_zret hx hb hr hlk hW (by omega) ⟨hF40, ⟨hp39.1.1, hp39.1.2.1, hp39.1.2.2.1, hp39.1.2.2.2.1, (hp39.1.2.2.2.2.1.trans q26), (hp39.1.2.2.2.2.2.1.trans q27), (hp39.1.2.2.2.2.2.2.1.trans q28), (hp39.1.2.2.2.2.2.2.2.1.trans q29), (hp39.1.2.2.2.2.2.2.2.2.2.1.trans q30), (hp39.1.2.2.2.2.2.2.2.2.2.2.1.trans q31), trivial⟩, by exfalso; omega⟩ dX11_readsCondition_39
  refine x_aload_n hx hb hl 0 rfl dX11_readsCondition_9 rfl ?_
  refine x_iconst hx hb dX11_readsCondition_10 ?_
  refine x_aload_n hx hb hl 0 rfl dX11_readsCondition_11 rfl ?_
  refine x_get (j := 9) (v := .int (xJ (s0 268 9))) hx hb hown hT hE hW cls_X11 (Or.inl (by decide)) (so_268 h0 g _) (by decide) rfl wq1194 dX11_readsCondition_12 ?_
  refine x_rd hW (fun x235 ex235 rx235 => ?_)
  have bx235 : 0 ≤ x235 ∧ x235 ≤ s0 268 10 ∧ s0 268 10 ≤ 240 := by rw [ex235]; exact p3
  have fx235 : x235 = s0 268 9 := ex235.trans k268_9
  refine x_goi (x_runV (As := [.int (xJ 1), .int (xJ x235)]) hx hb hml hown hT hE hW hl.1 (Or.inl (by decide)) (so_268 h0 g _) rfl cf_X11_wrongAt wq1401 wq107 wq1399 (c_X11_wrongAtK l D g T h0 s0 hW.2.1 1 (by decide) x235 rx235 (by omega) p0 p1 p2 p3) ⟨rfl, rfl, ⟨by decide, by decide⟩, ⟨by decide, by decide⟩⟩ rfl rfl (Nat.le_of_ble_eq_true rfl) dX11_readsCondition_15) hW (fun x236 s237 H locs rx236 hp238 hW => ?_)
  obtain ⟨fs237, hp238⟩ := hp238
  have hF239 := hF.call fs237 (fun k h => by omega)
  have ghp238 := hp238.2
  rw [eQ]
  exact x_zret hx hb hr hlk hW (by omega) ⟨hF239, ⟨hp238.1.1, hp238.1.2.1, hp238.1.2.2.1, hp238.1.2.2.2.1, (hp238.1.2.2.2.2.1.trans k268_8), (hp238.1.2.2.2.2.2.1.trans k268_58), (hp238.1.2.2.2.2.2.2.1.trans k268_17), (hp238.1.2.2.2.2.2.2.2.2.1.trans k268_10), (hp238.1.2.2.2.2.2.2.2.2.2.2.2.2.1.trans k268_16), (hp238.1.2.2.2.2.2.2.2.2.2.2.2.2.2.1.trans k268_48), trivial⟩, by
    have z : (zc2 f9 n9 (s0 268 9) (s0 268 14) (s0 277)) = (-1000 - s0 268 9, s0 268 9, s0 268 14, s0 277) := by unfold zc2; rw [if_pos (by omega)]
    rw [z]
    exact Or.inl ⟨by omega, (by show (-1000 - _ : Int) ≠ 0; omega), (by show _ = (-1000 - _ : Int); omega)⟩⟩ dX11_readsCondition_18

