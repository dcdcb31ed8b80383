set_option maxHeartbeats 4000000 in
set_option maxRecDepth 100000 in
theorem c_X11_endsPieceK (l : Launch) (D : va_G) (g : xG) (T : Nat × Nat × Nat) (h0 : Nat) (s0 : xS) (hσ : xRR s0) (f9 : Int → Int) (n9 : Int) (a9 : Int) (Z : Int × Int × Int × (Int → Int)) (hf : xm8 (s0 276) = f9 ∧ s0 268 10 = n9) (hz : zCQ f9 n9 a9 Z false s0) (hw0 : 0 < s0 268 15) (p0 : IMn s0) (p1 : IMk s0) (p2 : IMo s0) (p3 : IR s0) : Met l yX11_endsPiece (xws yX11_endsPiece cX11_endsPiece 1 none) { frames := 1, cells := 0, slots := 0, locals := 22 } (xP [.ref (h0 + 268)] D g T h0 s0) (xQv D g h0 (fun τ => xFr (fun k => k = 268 ∨ k = 277) s0 τ ∧ (((IMn τ) ∧ (IMk τ) ∧ (IMo τ) ∧ (IR τ) ∧ (τ 268 8 = s0 268 8) ∧ (τ 268 58 = s0 268 58) ∧ (τ 268 17 = s0 268 17) ∧ (τ 268 9 = s0 268 9) ∧ (τ 268 10 = s0 268 10) ∧ (τ 268 16 = s0 268 16) ∧ (τ 268 48 = s0 268 48) ∧ True) ∧ (zCQ f9 n9 a9 Z false τ ∧ ztW τ ≠ 10 ∧ 0 < τ 268 15)))) 0 0 (xA h0) := by
  refine x_met hσ (by decide) (Nat.le_of_ble_eq_true rfl) ?_
  intro p e s m args below meth c hx hb hr hml hown hT hlk hnm hE hW ls hl
  have hl : lv_has ls 1 [(0, .ref (h0 + 268))] := hl
  obtain ⟨Q, eQ⟩ : ∃ Q, Q = MQ below (xQv D g h0 (fun τ => xFr (fun k => k = 268 ∨ k = 277) s0 τ ∧ (((IMn τ) ∧ (IMk τ) ∧ (IMo τ) ∧ (IR τ) ∧ (τ 268 8 = s0 268 8) ∧ (τ 268 58 = s0 268 58) ∧ (τ 268 17 = s0 268 17) ∧ (τ 268 9 = s0 268 9) ∧ (τ 268 10 = s0 268 10) ∧ (τ 268 16 = s0 268 16) ∧ (τ 268 48 = s0 268 48) ∧ True) ∧ (zCQ f9 n9 a9 Z false τ ∧ ztW τ ≠ 10 ∧ 0 < τ 268 15)))) args s 0 0 (xA h0) := ⟨_, rfl⟩
  rw [← eQ]
  generalize hHe : ([] : List Loc) = locs at hW ⊢
  obtain ⟨H, eH⟩ : ∃ H, H = s.heap := ⟨_, rfl⟩
  rw [← eH] at hW ⊢
  have hF : xFr (fun k => k = 268 ∨ k = 277) s0 s0 := xFr.rf
  have k268_8 : s0 268 8 = s0 268 8 := rfl
  have k268_58 : s0 268 58 = s0 268 58 := rfl
  have k268_17 : s0 268 17 = s0 268 17 := rfl
  have k268_9 : s0 268 9 = s0 268 9 := rfl
  have k268_10 : s0 268 10 = s0 268 10 := rfl
  have k268_16 : s0 268 16 = s0 268 16 := rfl
  have k268_48 : s0 268 48 = s0 268 48 := rfl
  have k268_13 : s0 268 13 = s0 268 13 := rfl
  have k268_14 : s0 268 14 = s0 268 14 := rfl
  have k268_15 : s0 268 15 = s0 268 15 := rfl
  have hf2 := hf.2
  have L0 : ∀ (fu : Nat) (s_0 : xS) (H : Heap) (locs : List Loc) (ls : Array Slot), (xFr (fun k => k = 268 ∨ k = 277) s0 s_0) → (IMn s_0) → (IMk s_0) → (IMo s_0) → (IR s_0) → (s_0 268 8 = s0 268 8) → (s_0 268 58 = s0 268 58) → (s_0 268 17 = s0 268 17) → (s_0 268 9 = s0 268 9) → (s_0 268 10 = s0 268 10) → (s_0 268 16 = s0 268 16) → (s_0 268 48 = s0 268 48) → (zCQ f9 n9 a9 Z false s_0 ∧ 0 < s_0 268 15) → (s_0 268 15).toNat < fu → xW D g h0 s H locs s_0 → lv_has ls 1 [(0, .ref (h0 + 268))] → W p l e { frames := 1, cells := 0, slots := 0, locals := 22 } s m args below meth c H locs 0 0 Q (F0 m 0 ls []) := by
    intro fu
    induction fu with
    | zero => intro s_0 H locs ls hF_0 q0_0 q0_1 q0_2 q0_3 q0_4 q0_5 q0_6 q0_7 q0_8 q0_9 q0_10 v0_0 hm; exact absurd hm (Nat.not_lt_zero _)
    | succ fu ih0 =>
      intro s_0 H locs ls hF_0 q0_0 q0_1 q0_2 q0_3 q0_4 q0_5 q0_6 q0_7 q0_8 q0_9 q0_10 v0_0 hm hW hl
      have hm_0 := fun (_ : Unit) => hm
      clear hm
      have b0 := v0_0.1.b
      have o0 := v0_0.1.o
      have w0 := v0_0.2
      refine x_aload_n hx hb hl 0 rfl dX11_endsPiece_0 rfl ?_
      refine x_goi (x_runV (As := []) hx hb hml hown hT hE hW hl.1 (Or.inl (by decide)) (so_268 h0 g _) rfl cf_X11_waitTop wq1507 wq123 wq1505 (c_X11_waitTopK l D g T h0 s_0 hW.2.1 (v0_0.1.wt) q0_0 q0_1 q0_2 q0_3) ⟨rfl, rfl, ⟨by decide, by decide⟩, ⟨by decide, by decide⟩⟩ rfl rfl (Nat.le_of_ble_eq_true rfl) dX11_endsPiece_1) hW (fun x1 s2 H locs rx1 hp3 hW => ?_)
      obtain ⟨es2, hp3⟩ := hp3
      subst es2
      have ghp3 := hp3
      have H1 := ghp3
      refine x_bipush hx hb dX11_endsPiece_4 (by decide) ?_
      refine x_icmp_ne (tgt := 39) hx hb rx1 (by decide) dX11_endsPiece_6 (by decide) (fun c4 => ?_) (fun c4 => ?_)
      · skip
        rw [eQ]
        exact x_vret hx hb hr hlk hW ⟨hF_0, ⟨q0_0, q0_1, q0_2, q0_3, q0_4, q0_5, q0_6, q0_7, q0_8, q0_9, q0_10, trivial⟩, ⟨v0_0.1, by omega, by omega⟩⟩ dX11_endsPiece_39
      refine x_aload_n hx hb hl 0 rfl dX11_endsPiece_9 rfl ?_
      refine x_bipush hx hb dX11_endsPiece_10 (by decide) ?_
      refine x_iconst hx hb dX11_endsPiece_12 ?_
      refine x_gov (x_runV (As := [.int (xJ 10), .int (xJ 0)]) hx hb hml hown hT hE hW hl.1 (Or.inl (by decide)) (so_268 h0 g _) rfl cf_X11_notes wq1493 wq121 wq1491 (c_X11_notesK l D g T h0 s_0 hW.2.1 10 (by decide) 0 (by decide) (by omega) (by omega) (by omega) q0_0 q0_1 q0_2 q0_3) ⟨rfl, rfl, ⟨by decide, by decide⟩, ⟨by decide, by decide⟩⟩ rfl rfl (Nat.le_of_ble_eq_true rfl) dX11_endsPiece_13) hW (fun s6 H locs hp7 hW => ?_)
      obtain ⟨fs6, hp7⟩ := hp7
      have hF8 := hF_0.call fs6 (fun k h => by omega)
      have ghp7 := hp7.2
      have H13 := ghp7
      have F13 := fs6
      refine x_aload_n hx hb hl 0 rfl dX11_endsPiece_16 rfl ?_
      refine x_aload_n hx hb hl 0 rfl dX11_endsPiece_17 rfl ?_
      refine x_get (j := 15) (v := .int (xJ (s6 268 15))) hx hb hown hT hE hW cls_X11 (Or.inl (by decide)) (so_268 h0 g _) (by decide) rfl wq1200 dX11_endsPiece_18 ?_
      refine x_rd hW (fun x9 ex9 rx9 => ?_)
      have fx9 : x9 = s_0 268 15 := ex9.trans hp7.1.2.2.2.2.2.2.2.2.2.2.1
      refine x_iconst hx hb dX11_endsPiece_21 ?_
      refine x_isub hx hb dX11_endsPiece_22 ?_
      refine x_put (j := 15) hx hb hown hT hE hW cls_X11 (by decide) (fun σ => so_268 h0 g σ) (by decide) (st_X11_15 h0 s6 268 (x9 - 1)) (ln_X11_15 h0 _ _) wq1200 rfl rfl rfl (by omega) dX11_endsPiece_23 (fun H locs s10 es10 hW => ?_)
      have q11 : IMn s10 := by rw [es10]; exact IMn_268 hp7.1.1 (by omega)
      have q12 : IMk s10 := by rw [es10]; exact IMk_268 hp7.1.2.1 (by omega)
      have q13 : IMo s10 := by rw [es10]; exact IMo_o (by unfold suIMo; first | decide | omega) hp7.1.2.2.1
      have q14 : IR s10 := by rw [es10]; exact IR_268 hp7.1.2.2.2.1 (by omega)
      have q15 : s10 268 8 = s0 268 8 := (show s10 268 8 = s6 268 8 from by rw [es10, xU_j _ _ (by decide)]).trans (hp7.1.2.2.2.2.1.trans q0_4)
      have q16 : s10 268 58 = s0 268 58 := (show s10 268 58 = s6 268 58 from by rw [es10, xU_j _ _ (by decide)]).trans (hp7.1.2.2.2.2.2.1.trans q0_5)
      have q17 : s10 268 17 = s0 268 17 := (show s10 268 17 = s6 268 17 from by rw [es10, xU_j _ _ (by decide)]).trans (hp7.1.2.2.2.2.2.2.1.trans q0_6)
      have q18 : s10 268 9 = s0 268 9 := (show s10 268 9 = s6 268 9 from by rw [es10, xU_j _ _ (by decide)]).trans (hp7.1.2.2.2.2.2.2.2.1.trans q0_7)
      have q19 : s10 268 10 = s0 268 10 := (show s10 268 10 = s6 268 10 from by rw [es10, xU_j _ _ (by decide)]).trans (hp7.1.2.2.2.2.2.2.2.2.1.trans q0_8)
      have q20 : s10 268 13 = s_0 268 13 := (show s10 268 13 = s6 268 13 from by rw [es10, xU_j _ _ (by decide)]).trans hp7.1.2.2.2.2.2.2.2.2.2.1
      have q21 : s10 268 15 = (x9 - 1) := by rw [es10, xU_s]
      have q22 : s10 268 16 = s0 268 16 := (show s10 268 16 = s6 268 16 from by rw [es10, xU_j _ _ (by decide)]).trans (hp7.1.2.2.2.2.2.2.2.2.2.2.2.1.trans q0_9)
      have q23 : s10 268 48 = s0 268 48 := (show s10 268 48 = s6 268 48 from by rw [es10, xU_j _ _ (by decide)]).trans (hp7.1.2.2.2.2.2.2.2.2.2.2.2.2.1.trans q0_10)
      have hF24 := hF8.put es10 (by omega)
      have E23 := es10
      refine x_aload_n hx hb hl 0 rfl dX11_endsPiece_26 rfl ?_
      refine x_aload_n hx hb hl 0 rfl dX11_endsPiece_27 rfl ?_
      refine x_get (j := 13) (v := .int (xJ (s10 268 13))) hx hb hown hT hE hW cls_X11 (Or.inl (by decide)) (so_268 h0 g _) (by decide) rfl wq1198 dX11_endsPiece_28 ?_
      refine x_rd hW (fun x25 ex25 rx25 => ?_)
      have fx25 : x25 = s_0 268 13 := ex25.trans q20
      refine x_iconst hx hb dX11_endsPiece_31 ?_
      refine x_isub hx hb dX11_endsPiece_32 ?_
      refine x_put (j := 13) hx hb hown hT hE hW cls_X11 (by decide) (fun σ => so_268 h0 g σ) (by decide) (st_X11_13 h0 s10 268 (x25 - 1)) (ln_X11_13 h0 _ _) wq1198 rfl rfl rfl (by omega) dX11_endsPiece_33 (fun H locs s26 es26 hW => ?_)
      have q27 : IMn s26 := by rw [es26]; exact IMn_268 q11 (by omega)
      have q28 : IMk s26 := by rw [es26]; exact IMk_268 q12 (by omega)
      have q29 : IMo s26 := by rw [es26]; exact IMo_o (by unfold suIMo; first | decide | omega) q13
      have q30 : IR s26 := by rw [es26]; exact IR_268 q14 (by omega)
      have q31 : s26 268 8 = s0 268 8 := (show s26 268 8 = s10 268 8 from by rw [es26, xU_j _ _ (by decide)]).trans q15
      have q32 : s26 268 58 = s0 268 58 := (show s26 268 58 = s10 268 58 from by rw [es26, xU_j _ _ (by decide)]).trans q16
      have q33 : s26 268 17 = s0 268 17 := (show s26 268 17 = s10 268 17 from by rw [es26, xU_j _ _ (by decide)]).trans q17
      have q34 : s26 268 9 = s0 268 9 := (show s26 268 9 = s10 268 9 from by rw [es26, xU_j _ _ (by decide)]).trans q18
      have q35 : s26 268 10 = s0 268 10 := (show s26 268 10 = s10 268 10 from by rw [es26, xU_j _ _ (by decide)]).trans q19
      have q36 : s26 268 13 = (x25 - 1) := by rw [es26, xU_s]
      have q37 : s26 268 15 = (x9 - 1) := (show s26 268 15 = s10 268 15 from by rw [es26, xU_j _ _ (by decide)]).trans q21
      have q38 : s26 268 16 = s0 268 16 := (show s26 268 16 = s10 268 16 from by rw [es26, xU_j _ _ (by decide)]).trans q22
      have q39 : s26 268 48 = s0 268 48 := (show s26 268 48 = s10 268 48 from by rw [es26, xU_j _ _ (by decide)]).trans q23
      have hF40 := hF24.put es26 (by omega)
      have E33 := es26
      refine lv_goto (tgt := 0) hx hb dX11_endsPiece_36 (by decide) ?_
      exact ih0 s26 H locs ls hF40 q27 q28 q29 q30 q31 q32 q33 q34 q35 q38 q39 (v0_0.1.not (by omega) (by omega) (by rw [E33, xU_j _ _ (by decide), E23, xU_j _ _ (by decide)]; exact H13.2) (by rw [E33, xU_k _ _ _ (by first | decide | omega), E23, xU_k _ _ _ (by first | decide | omega), H13.1]; rfl) (by omega) (by omega) (by rw [E33, xU_k _ _ _ (by first | decide | omega), E23, xU_k _ _ _ (by first | decide | omega), F13 278 (by omega)])) (by have hm := hm_0 (); omega) hW (lv_sub hl [0] rfl)
  exact L0 ((s0 268 15 : Int).toNat + 1) s0 H locs ls hF p0 p1 p2 p3 k268_8 k268_58 k268_17 k268_9 k268_10 k268_16 k268_48 (⟨hz, hw0⟩) (Nat.lt_succ_self _) hW (lv_sub hl [0] rfl)
set_option maxHeartbeats 4000000 in
set_option maxRecDepth 100000 in
theorem c_X11_landsK (l : Launch) (D : va_G) (g : xG) (T : Nat × Nat × Nat) (h0 : Nat) (s0 : xS) (hσ : xRR s0) (x : Int) (rx : xR x) (f9 : Int → Int) (n9 : Int) (a9 : Int) (Z : Int × Int × Int × (Int → Int)) (hf : xm8 (s0 276) = f9 ∧ s0 268 10 = n9) (hz : zCQ f9 n9 a9 Z false s0) (hxz : (x = 0 ∨ (x = 1 ∧ zch f9 n9 (s0 268 9) ≠ 38)) ∧ ztW s0 ≠ 10 ∧ 10 ≤ ztW s0) (p0 : IMn s0) (p1 : IMk s0) (p2 : IMo s0) (p3 : IR s0) : Met l yX11_lands (xws yX11_lands cX11_lands 3 none) { frames := 1, cells := 0, slots := 0, locals := 20 } (xP [.ref (h0 + 268), .int (xJ x)] D g T h0 s0) (xQv D g h0 (fun τ => xFr (fun k => k = 268 ∨ k = 277) s0 τ ∧ (((IMn τ) ∧ (IMk τ) ∧ (IMo τ) ∧ (IR τ) ∧ (τ 268 8 = s0 268 8) ∧ (τ 268 58 = s0 268 58) ∧ (τ 268 17 = s0 268 17) ∧ (τ 268 9 = s0 268 9) ∧ (τ 268 10 = s0 268 10) ∧ (τ 268 13 = s0 268 13) ∧ (τ 268 14 = s0 268 14) ∧ (τ 268 16 = s0 268 16) ∧ (τ 268 48 = s0 268 48) ∧ True) ∧ (zCQ f9 n9 a9 Z false τ ∧ 12 ≤ ztW τ ∧ (x = 0 ∨ 13 ≤ ztW τ))))) 0 0 (xA h0) := by
  refine x_met hσ (by decide) (Nat.le_of_ble_eq_true rfl) ?_
  intro p e s m args below meth c hx hb hr hml hown hT hlk hnm hE hW ls hl
  have hl : lv_has ls 3 [(0, .ref (h0 + 268)), (1, .int (xJ x))] := hl
  obtain ⟨Q, eQ⟩ : ∃ Q, Q = MQ below (xQv D g h0 (fun τ => xFr (fun k => k = 268 ∨ k = 277) s0 τ ∧ (((IMn τ) ∧ (IMk τ) ∧ (IMo τ) ∧ (IR τ) ∧ (τ 268 8 = s0 268 8) ∧ (τ 268 58 = s0 268 58) ∧ (τ 268 17 = s0 268 17) ∧ (τ 268 9 = s0 268 9) ∧ (τ 268 10 = s0 268 10) ∧ (τ 268 13 = s0 268 13) ∧ (τ 268 14 = s0 268 14) ∧ (τ 268 16 = s0 268 16) ∧ (τ 268 48 = s0 268 48) ∧ True) ∧ (zCQ f9 n9 a9 Z false τ ∧ 12 ≤ ztW τ ∧ (x = 0 ∨ 13 ≤ ztW τ))))) args s 0 0 (xA h0) := ⟨_, rfl⟩
  rw [← eQ]
  generalize hHe : ([] : List Loc) = locs at hW ⊢
  obtain ⟨H, eH⟩ : ∃ H, H = s.heap := ⟨_, rfl⟩
  rw [← eH] at hW ⊢
  have hF : xFr (fun k => k = 268 ∨ k = 277) s0 s0 := xFr.rf
  have k268_8 : s0 268 8 = s0 268 8 := rfl
  have k268_58 : s0 268 58 = s0 268 58 := rfl
  have k268_17 : s0 268 17 = s0 268 17 := rfl
  have k268_9 : s0 268 9 = s0 268 9 := rfl
  have k268_10 : s0 268 10 = s0 268 10 := rfl
  have k268_13 : s0 268 13 = s0 268 13 := rfl
  have k268_14 : s0 268 14 = s0 268 14 := rfl
  have k268_16 : s0 268 16 = s0 268 16 := rfl
  have k268_48 : s0 268 48 = s0 268 48 := rfl
  have k268_15 : s0 268 15 = s0 268 15 := rfl
  have hf2 := hf.2
  have L0 : ∀ (fu : Nat) (s_0 : xS) (H : Heap) (locs : List Loc) (ls : Array Slot), (xFr (fun k => k = 268 ∨ k = 277) s0 s_0) → (IMn s_0) → (IMk s_0) → (IMo s_0) → (IR s_0) → (s_0 268 8 = s0 268 8) → (s_0 268 58 = s0 268 58) → (s_0 268 17 = s0 268 17) → (s_0 268 9 = s0 268 9) → (s_0 268 10 = s0 268 10) → (s_0 268 13 = s0 268 13) → (s_0 268 14 = s0 268 14) → (s_0 268 16 = s0 268 16) → (s_0 268 48 = s0 268 48) → (zCQ f9 n9 a9 Z false s_0) → (ztW s_0 ≠ 10 ∧ 10 ≤ ztW s_0) → (s_0 268 15).toNat < fu → xW D g h0 s H locs s_0 → lv_has ls 3 [(0, .ref (h0 + 268)), (1, .int (xJ x))] → W p l e { frames := 1, cells := 0, slots := 0, locals := 20 } s m args below meth c H locs 0 0 Q (F0 m 0 ls []) := by
    intro fu
    induction fu with
    | zero => intro s_0 H locs ls hF_0 q0_0 q0_1 q0_2 q0_3 q0_4 q0_5 q0_6 q0_7 q0_8 q0_9 q0_10 q0_11 q0_12 v0_0 v0_1 hm; exact absurd hm (Nat.not_lt_zero _)
    | succ fu ih0 =>
      intro s_0 H locs ls hF_0 q0_0 q0_1 q0_2 q0_3 q0_4 q0_5 q0_6 q0_7 q0_8 q0_9 q0_10 q0_11 q0_12 v0_0 v0_1 hm hW hl
      have hm_0 := fun (_ : Unit) => hm
      clear hm
      have b0 := v0_0.b
      have n0 := v0_0.ne2 (by omega)
      have t0 := v0_0.top n0
      refine x_aload_n hx hb hl 0 rfl dX11_lands_0 rfl ?_
      refine x_goi (x_runV (As := []) hx hb hml hown hT hE hW hl.1 (Or.inl (by decide)) (so_268 h0 g _) rfl cf_X11_waitTop wq1507 wq123 wq1505 (c_X11_waitTopK l D g T h0 s_0 hW.2.1 (v0_0.wt) q0_0 q0_1 q0_2 q0_3) ⟨rfl, rfl, ⟨by decide, by decide⟩, ⟨by decide, by decide⟩⟩ rfl rfl (Nat.le_of_ble_eq_true rfl) dX11_lands_1) hW (fun x1 s2 H locs rx1 hp3 hW => ?_)
      obtain ⟨es2, hp3⟩ := hp3
      subst es2
      have ghp3 := hp3
      have H1 := ghp3
      refine x_bipush hx hb dX11_lands_4 (by decide) ?_
      refine x_icmp_eq (tgt := 22) hx hb rx1 (by decide) dX11_lands_6 (by decide) (fun c4 => ?_) (fun c4 => ?_)
      · skip
        refine x_aload_n hx hb hl 0 rfl dX11_lands_22 rfl ?_
        refine x_get (j := 19) (v := .ref (h0 + 278)) hx hb hown hT hE hW cls_X11 (Or.inl (by decide)) (so_268 h0 g _) (by decide) rfl wq1204 dX11_lands_23 ?_
        refine x_aload_n hx hb hl 0 rfl dX11_lands_26 rfl ?_
        refine x_get (j := 15) (v := .int (xJ (s_0 268 15))) hx hb hown hT hE hW cls_X11 (Or.inl (by decide)) (so_268 h0 g _) (by decide) rfl wq1200 dX11_lands_27 ?_
        refine x_rd hW (fun x5 ex5 rx5 => ?_)
        have q6 : s_0 268 15 = x5 := ex5.symm
        refine x_iconst hx hb dX11_lands_30 ?_
        refine x_isub hx hb dX11_lands_31 ?_
        refine x_iald hx hb hE hW (Or.inl (by decide)) (sa_278 h0 g _) (by omega) (by decide) dX11_lands_32 ?_
        refine x_rd hW (fun x7 ex7 rx7 => ?_)
        have V32 : x7 = s_0 278 (s_0 268 15 - 1) := by rw [ex7, show (x5 - 1) = s_0 268 15 - 1 from by omega]
        refine lv_ldc (v := xJ 1048576) hx hb hown (hT _ wq1482) dX11_lands_33 ?_
        refine x_irem hx hb rx7 (by decide) (by omega) (by decide) dX11_lands_35 ?_
        refine x_nm (fun x8 ex8 => ?_)
        refine lv_istore_n (lv' := [(2, .int (xJ x8)), (0, .ref (h0 + 268)), (1, .int (xJ x))]) hx hb dX11_lands_36 rfl hl (by decide) rfl (fun ls hl => ?_)
        have V36 : x8 = s_0 278 (s_0 268 15 - 1) % 1048576 := by omega
        refine x_aload_n hx hb hl 1 rfl dX11_lands_37 rfl ?_
        refine x_get (j := 18) (v := .ref (h0 + 277)) hx hb hown hT hE hW cls_X11 (Or.inl (by decide)) (so_268 h0 g _) (by decide) rfl wq1203 dX11_lands_38 ?_
        refine x_iload_n hx hb hl 0 rfl dX11_lands_41 rfl ?_
        refine lv_ldc (v := xJ 1048576) hx hb hown (hT _ wq1482) dX11_lands_42 ?_
        refine x_aload_n hx hb hl 1 rfl dX11_lands_44 rfl ?_
        refine x_get (j := 18) (v := .ref (h0 + 277)) hx hb hown hT hE hW cls_X11 (Or.inl (by decide)) (so_268 h0 g _) (by decide) rfl wq1203 dX11_lands_45 ?_
        refine x_iload_n hx hb hl 0 rfl dX11_lands_48 rfl ?_
        refine x_iald hx hb hE hW (Or.inl (by decide)) (sa_277 h0 g _) (by omega) (by decide) dX11_lands_49 ?_
        refine x_rd hW (fun x9 ex9 rx9 => ?_)
        have V49 : x9 = s_0 277 x8 := by rw [ex9]
        have W49 : s_0 277 x8 / 1048576 = s_0 278 (s_0 268 15 - 1) / 1048576 := by rw [V36]; omega
        refine lv_ldc (v := xJ 1048576) hx hb hown (hT _ wq1482) dX11_lands_50 ?_
        refine x_idiv hx hb rx9 (by decide) (by omega) (by decide) dX11_lands_52 ?_
        refine x_imul hx hb dX11_lands_53 ?_
        refine x_aload_n hx hb hl 1 rfl dX11_lands_54 rfl ?_
        refine x_get (j := 14) (v := .int (xJ (s_0 268 14))) hx hb hown hT hE hW cls_X11 (Or.inl (by decide)) (so_268 h0 g _) (by decide) rfl wq1199 dX11_lands_55 ?_
        refine x_rd hW (fun x10 ex10 rx10 => ?_)
        have fx10 : x10 = s0 268 14 := ex10.trans q0_10
        refine x_iadd hx hb dX11_lands_58 ?_
        refine x_iast hx hb hE hW (by decide) (fun σ => sa_277 h0 g σ) (by omega) (by decide) (by omega) dX11_lands_59 (fun H locs s11 es11 hW => ?_)
        have q12 : IMn s11 := by rw [es11]; exact IMn_o (by unfold suIMn; first | decide | omega) q0_0
        have q13 : IMk s11 := by rw [es11]; exact IMk_o (by unfold suIMk; first | decide | omega) q0_1
        have q14 : IMo s11 := by rw [es11]; exact IMo_o (by unfold suIMo; first | decide | omega) q0_2
        have q15 : IR s11 := by rw [es11]; exact IR_o (by unfold suIR; first | decide | omega) q0_3
        have q16 : s11 268 8 = s0 268 8 := (show s11 268 8 = s_0 268 8 from by rw [es11, xU_k _ _ _ (by first | decide | omega)]).trans q0_4
        have q17 : s11 268 58 = s0 268 58 := (show s11 268 58 = s_0 268 58 from by rw [es11, xU_k _ _ _ (by first | decide | omega)]).trans q0_5
        have q18 : s11 268 17 = s0 268 17 := (show s11 268 17 = s_0 268 17 from by rw [es11, xU_k _ _ _ (by first | decide | omega)]).trans q0_6
        have q19 : s11 268 9 = s0 268 9 := (show s11 268 9 = s_0 268 9 from by rw [es11, xU_k _ _ _ (by first | decide | omega)]).trans q0_7
        have q20 : s11 268 10 = s0 268 10 := (show s11 268 10 = s_0 268 10 from by rw [es11, xU_k _ _ _ (by first | decide | omega)]).trans q0_8
        have q21 : s11 268 13 = s0 268 13 := (show s11 268 13 = s_0 268 13 from by rw [es11, xU_k _ _ _ (by first | decide | omega)]).trans q0_9
        have q22 : s11 268 14 = s0 268 14 := (show s11 268 14 = s_0 268 14 from by rw [es11, xU_k _ _ _ (by first | decide | omega)]).trans q0_10
        have q23 : s11 268 16 = s0 268 16 := (show s11 268 16 = s_0 268 16 from by rw [es11, xU_k _ _ _ (by first | decide | omega)]).trans q0_11
        have q24 : s11 268 48 = s0 268 48 := (show s11 268 48 = s_0 268 48 from by rw [es11, xU_k _ _ _ (by first | decide | omega)]).trans q0_12
        have q25 : s11 268 15 = x5 := (show s11 268 15 = s_0 268 15 from by rw [es11, xU_k _ _ _ (by first | decide | omega)]).trans q6
        have hF26 := hF_0.put es11 (by omega)
        have E59 := es11
        refine x_aload_n hx hb hl 1 rfl dX11_lands_60 rfl ?_
        refine x_aload_n hx hb hl 1 rfl dX11_lands_61 rfl ?_
        refine x_get (j := 15) (v := .int (xJ (s11 268 15))) hx hb hown hT hE hW cls_X11 (Or.inl (by decide)) (so_268 h0 g _) (by decide) rfl wq1200 dX11_lands_62 ?_
        refine x_rd hW (fun x27 ex27 rx27 => ?_)
        have fx27 : x27 = x5 := ex27.trans q25
        refine x_iconst hx hb dX11_lands_65 ?_
        refine x_isub hx hb dX11_lands_66 ?_
        refine x_put (j := 15) hx hb hown hT hE hW cls_X11 (by decide) (fun σ => so_268 h0 g σ) (by decide) (st_X11_15 h0 s11 268 (x27 - 1)) (ln_X11_15 h0 _ _) wq1200 rfl rfl rfl (by omega) dX11_lands_67 (fun H locs s28 es28 hW => ?_)
        have q29 : IMn s28 := by rw [es28]; exact IMn_268 q12 (by omega)
        have q30 : IMk s28 := by rw [es28]; exact IMk_268 q13 (by omega)
        have q31 : IMo s28 := by rw [es28]; exact IMo_o (by unfold suIMo; first | decide | omega) q14
        have q32 : IR s28 := by rw [es28]; exact IR_268 q15 (by omega)
        have q33 : s28 268 8 = s0 268 8 := (show s28 268 8 = s11 268 8 from by rw [es28, xU_j _ _ (by decide)]).trans q16
        have q34 : s28 268 58 = s0 268 58 := (show s28 268 58 = s11 268 58 from by rw [es28, xU_j _ _ (by decide)]).trans q17
        have q35 : s28 268 17 = s0 268 17 := (show s28 268 17 = s11 268 17 from by rw [es28, xU_j _ _ (by decide)]).trans q18
        have q36 : s28 268 9 = s0 268 9 := (show s28 268 9 = s11 268 9 from by rw [es28, xU_j _ _ (by decide)]).trans q19
        have q37 : s28 268 10 = s0 268 10 := (show s28 268 10 = s11 268 10 from by rw [es28, xU_j _ _ (by decide)]).trans q20
        have q38 : s28 268 13 = s0 268 13 := (show s28 268 13 = s11 268 13 from by rw [es28, xU_j _ _ (by decide)]).trans q21
        have q39 : s28 268 14 = s0 268 14 := (show s28 268 14 = s11 268 14 from by rw [es28, xU_j _ _ (by decide)]).trans q22
        have q40 : s28 268 16 = s0 268 16 := (show s28 268 16 = s11 268 16 from by rw [es28, xU_j _ _ (by decide)]).trans q23
        have q41 : s28 268 48 = s0 268 48 := (show s28 268 48 = s11 268 48 from by rw [es28, xU_j _ _ (by decide)]).trans q24
        have q42 : s28 268 15 = (x27 - 1) := by rw [es28, xU_s]
        have hF43 := hF26.put es28 (by omega)
        have E67 := es28
        have X67 := v0_0.land (τ := s28) (k := x8) (v := 1048576 * (s_0 277 x8 / 1048576) + s_0 268 14) (by rw [show s_0 268 9 = s0 268 9 from by omega]; omega) V36 rfl (by omega) (by omega) (by rw [E67, xU_k _ _ _ (by first | decide | omega), E59, xU_xud, ← V49]; congr 1; omega) (by omega) (by omega) (by rw [E67, xU_k _ _ _ (by first | decide | omega), E59, xU_k _ _ _ (by first | decide | omega)])
        refine lv_goto (tgt := 0) hx hb dX11_lands_70 (by decide) ?_
        exact ih0 s28 H locs ls hF43 q29 q30 q31 q32 q33 q34 q35 q36 q37 q38 q39 q40 q41 (X67.1) (by have y := X67.2; omega) (by have hm := hm_0 (); omega) hW (lv_sub hl [1, 2] rfl)
      refine x_iload_n hx hb hl 1 rfl dX11_lands_9 rfl ?_
      refine x_if_eq (tgt := 73) hx hb rx dX11_lands_10 (by decide) (fun c44 => ?_) (fun c44 => ?_)
      · skip
        rw [eQ]
        exact x_vret hx hb hr hlk hW ⟨hF_0, ⟨q0_0, q0_1, q0_2, q0_3, q0_4, q0_5, q0_6, q0_7, q0_8, q0_9, q0_10, q0_11, q0_12, trivial⟩, ⟨v0_0, by omega, by omega⟩⟩ dX11_lands_73
      refine x_aload_n hx hb hl 0 rfl dX11_lands_13 rfl ?_
      refine x_goi (x_runV (As := []) hx hb hml hown hT hE hW hl.1 (Or.inl (by decide)) (so_268 h0 g _) rfl cf_X11_waitTop wq1507 wq123 wq1505 (c_X11_waitTopK l D g T h0 s_0 hW.2.1 (v0_0.wt) q0_0 q0_1 q0_2 q0_3) ⟨rfl, rfl, ⟨by decide, by decide⟩, ⟨by decide, by decide⟩⟩ rfl rfl (Nat.le_of_ble_eq_true rfl) dX11_lands_14) hW (fun x45 s46 H locs rx45 hp47 hW => ?_)
      obtain ⟨es46, hp47⟩ := hp47
      subst es46
      have ghp47 := hp47
      have H14 := ghp47
      refine x_bipush hx hb dX11_lands_17 (by decide) ?_
      refine x_icmp_ne (tgt := 73) hx hb rx45 (by decide) dX11_lands_19 (by decide) (fun c48 => ?_) (fun c48 => ?_)
      · skip
        rw [eQ]
        exact x_vret hx hb hr hlk hW ⟨hF_0, ⟨q0_0, q0_1, q0_2, q0_3, q0_4, q0_5, q0_6, q0_7, q0_8, q0_9, q0_10, q0_11, q0_12, trivial⟩, ⟨v0_0, by omega, by omega⟩⟩ dX11_lands_73
      refine x_aload_n hx hb hl 0 rfl dX11_lands_22 rfl ?_
      refine x_get (j := 19) (v := .ref (h0 + 278)) hx hb hown hT hE hW cls_X11 (Or.inl (by decide)) (so_268 h0 g _) (by decide) rfl wq1204 dX11_lands_23 ?_
      refine x_aload_n hx hb hl 0 rfl dX11_lands_26 rfl ?_
      refine x_get (j := 15) (v := .int (xJ (s_0 268 15))) hx hb hown hT hE hW cls_X11 (Or.inl (by decide)) (so_268 h0 g _) (by decide) rfl wq1200 dX11_lands_27 ?_
      refine x_rd hW (fun x49 ex49 rx49 => ?_)
      have q50 : s_0 268 15 = x49 := ex49.symm
      refine x_iconst hx hb dX11_lands_30 ?_
      refine x_isub hx hb dX11_lands_31 ?_
      refine x_iald hx hb hE hW (Or.inl (by decide)) (sa_278 h0 g _) (by omega) (by decide) dX11_lands_32 ?_
      refine x_rd hW (fun x51 ex51 rx51 => ?_)
      have V32 : x51 = s_0 278 (s_0 268 15 - 1) := by rw [ex51, show (x49 - 1) = s_0 268 15 - 1 from by omega]
      refine lv_ldc (v := xJ 1048576) hx hb hown (hT _ wq1482) dX11_lands_33 ?_
      refine x_irem hx hb rx51 (by decide) (by omega) (by decide) dX11_lands_35 ?_
      refine x_nm (fun x52 ex52 => ?_)
      refine lv_istore_n (lv' := [(2, .int (xJ x52)), (0, .ref (h0 + 268)), (1, .int (xJ x))]) hx hb dX11_lands_36 rfl hl (by decide) rfl (fun ls hl => ?_)
      have V36 : x52 = s_0 278 (s_0 268 15 - 1) % 1048576 := by omega
      refine x_aload_n hx hb hl 1 rfl dX11_lands_37 rfl ?_
      refine x_get (j := 18) (v := .ref (h0 + 277)) hx hb hown hT hE hW cls_X11 (Or.inl (by decide)) (so_268 h0 g _) (by decide) rfl wq1203 dX11_lands_38 ?_
      refine x_iload_n hx hb hl 0 rfl dX11_lands_41 rfl ?_
      refine lv_ldc (v := xJ 1048576) hx hb hown (hT _ wq1482) dX11_lands_42 ?_
      refine x_aload_n hx hb hl 1 rfl dX11_lands_44 rfl ?_
      refine x_get (j := 18) (v := .ref (h0 + 277)) hx hb hown hT hE hW cls_X11 (Or.inl (by decide)) (so_268 h0 g _) (by decide) rfl wq1203 dX11_lands_45 ?_
      refine x_iload_n hx hb hl 0 rfl dX11_lands_48 rfl ?_
      refine x_iald hx hb hE hW (Or.inl (by decide)) (sa_277 h0 g _) (by omega) (by decide) dX11_lands_49 ?_
      refine x_rd hW (fun x53 ex53 rx53 => ?_)
      have V49 : x53 = s_0 277 x52 := by rw [ex53]
      have W49 : s_0 277 x52 / 1048576 = s_0 278 (s_0 268 15 - 1) / 1048576 := by rw [V36]; omega
      refine lv_ldc (v := xJ 1048576) hx hb hown (hT _ wq1482) dX11_lands_50 ?_
      refine x_idiv hx hb rx53 (by decide) (by omega) (by decide) dX11_lands_52 ?_
      refine x_imul hx hb dX11_lands_53 ?_
      refine x_aload_n hx hb hl 1 rfl dX11_lands_54 rfl ?_
      refine x_get (j := 14) (v := .int (xJ (s_0 268 14))) hx hb hown hT hE hW cls_X11 (Or.inl (by decide)) (so_268 h0 g _) (by decide) rfl wq1199 dX11_lands_55 ?_
      refine x_rd hW (fun x54 ex54 rx54 => ?_)
      have fx54 : x54 = s0 268 14 := ex54.trans q0_10
      refine x_iadd hx hb dX11_lands_58 ?_
      refine x_iast hx hb hE hW (by decide) (fun σ => sa_277 h0 g σ) (by omega) (by decide) (by omega) dX11_lands_59 (fun H locs s55 es55 hW => ?_)
      have q56 : IMn s55 := by rw [es55]; exact IMn_o (by unfold suIMn; first | decide | omega) q0_0
      have q57 : IMk s55 := by rw [es55]; exact IMk_o (by unfold suIMk; first | decide | omega) q0_1
      have q58 : IMo s55 := by rw [es55]; exact IMo_o (by unfold suIMo; first | decide | omega) q0_2
      have q59 : IR s55 := by rw [es55]; exact IR_o (by unfold suIR; first | decide | omega) q0_3
      have q60 : s55 268 8 = s0 268 8 := (show s55 268 8 = s_0 268 8 from by rw [es55, xU_k _ _ _ (by first | decide | omega)]).trans q0_4
      have q61 : s55 268 58 = s0 268 58 := (show s55 268 58 = s_0 268 58 from by rw [es55, xU_k _ _ _ (by first | decide | omega)]).trans q0_5
      have q62 : s55 268 17 = s0 268 17 := (show s55 268 17 = s_0 268 17 from by rw [es55, xU_k _ _ _ (by first | decide | omega)]).trans q0_6
      have q63 : s55 268 9 = s0 268 9 := (show s55 268 9 = s_0 268 9 from by rw [es55, xU_k _ _ _ (by first | decide | omega)]).trans q0_7
      have q64 : s55 268 10 = s0 268 10 := (show s55 268 10 = s_0 268 10 from by rw [es55, xU_k _ _ _ (by first | decide | omega)]).trans q0_8
      have q65 : s55 268 13 = s0 268 13 := (show s55 268 13 = s_0 268 13 from by rw [es55, xU_k _ _ _ (by first | decide | omega)]).trans q0_9
      have q66 : s55 268 14 = s0 268 14 := (show s55 268 14 = s_0 268 14 from by rw [es55, xU_k _ _ _ (by first | decide | omega)]).trans q0_10
      have q67 : s55 268 16 = s0 268 16 := (show s55 268 16 = s_0 268 16 from by rw [es55, xU_k _ _ _ (by first | decide | omega)]).trans q0_11
      have q68 : s55 268 48 = s0 268 48 := (show s55 268 48 = s_0 268 48 from by rw [es55, xU_k _ _ _ (by first | decide | omega)]).trans q0_12
      have q69 : s55 268 15 = x49 := (show s55 268 15 = s_0 268 15 from by rw [es55, xU_k _ _ _ (by first | decide | omega)]).trans q50
      have hF70 := hF_0.put es55 (by omega)
      have E59 := es55
      refine x_aload_n hx hb hl 1 rfl dX11_lands_60 rfl ?_
      refine x_aload_n hx hb hl 1 rfl dX11_lands_61 rfl ?_
      refine x_get (j := 15) (v := .int (xJ (s55 268 15))) hx hb hown hT hE hW cls_X11 (Or.inl (by decide)) (so_268 h0 g _) (by decide) rfl wq1200 dX11_lands_62 ?_
      refine x_rd hW (fun x71 ex71 rx71 => ?_)
      have fx71 : x71 = x49 := ex71.trans q69
      refine x_iconst hx hb dX11_lands_65 ?_
      refine x_isub hx hb dX11_lands_66 ?_
      refine x_put (j := 15) hx hb hown hT hE hW cls_X11 (by decide) (fun σ => so_268 h0 g σ) (by decide) (st_X11_15 h0 s55 268 (x71 - 1)) (ln_X11_15 h0 _ _) wq1200 rfl rfl rfl (by omega) dX11_lands_67 (fun H locs s72 es72 hW => ?_)
      have q73 : IMn s72 := by rw [es72]; exact IMn_268 q56 (by omega)
      have q74 : IMk s72 := by rw [es72]; exact IMk_268 q57 (by omega)
      have q75 : IMo s72 := by rw [es72]; exact IMo_o (by unfold suIMo; first | decide | omega) q58
      have q76 : IR s72 := by rw [es72]; exact IR_268 q59 (by omega)
      have q77 : s72 268 8 = s0 268 8 := (show s72 268 8 = s55 268 8 from by rw [es72, xU_j _ _ (by decide)]).trans q60
      have q78 : s72 268 58 = s0 268 58 := (show s72 268 58 = s55 268 58 from by rw [es72, xU_j _ _ (by decide)]).trans q61
      have q79 : s72 268 17 = s0 268 17 := (show s72 268 17 = s55 268 17 from by rw [es72, xU_j _ _ (by decide)]).trans q62
      have q80 : s72 268 9 = s0 268 9 := (show s72 268 9 = s55 268 9 from by rw [es72, xU_j _ _ (by decide)]).trans q63
      have q81 : s72 268 10 = s0 268 10 := (show s72 268 10 = s55 268 10 from by rw [es72, xU_j _ _ (by decide)]).trans q64
      have q82 : s72 268 13 = s0 268 13 := (show s72 268 13 = s55 268 13 from by rw [es72, xU_j _ _ (by decide)]).trans q65
      have q83 : s72 268 14 = s0 268 14 := (show s72 268 14 = s55 268 14 from by rw [es72, xU_j _ _ (by decide)]).trans q66
      have q84 : s72 268 16 = s0 268 16 := (show s72 268 16 = s55 268 16 from by rw [es72, xU_j _ _ (by decide)]).trans q67
      have q85 : s72 268 48 = s0 268 48 := (show s72 268 48 = s55 268 48 from by rw [es72, xU_j _ _ (by decide)]).trans q68
      have q86 : s72 268 15 = (x71 - 1) := by rw [es72, xU_s]
      have hF87 := hF70.put es72 (by omega)
      have E67 := es72
      have X67 := v0_0.land (τ := s72) (k := x52) (v := 1048576 * (s_0 277 x52 / 1048576) + s_0 268 14) (by rw [show s_0 268 9 = s0 268 9 from by omega]; omega) V36 rfl (by omega) (by omega) (by rw [E67, xU_k _ _ _ (by first | decide | omega), E59, xU_xud, ← V49]; congr 1; omega) (by omega) (by omega) (by rw [E67, xU_k _ _ _ (by first | decide | omega), E59, xU_k _ _ _ (by first | decide | omega)])
      refine lv_goto (tgt := 0) hx hb dX11_lands_70 (by decide) ?_
      exact ih0 s72 H locs ls hF87 q73 q74 q75 q76 q77 q78 q79 q80 q81 q82 q83 q84 q85 (X67.1) (by have y := X67.2; omega) (by have hm := hm_0 (); omega) hW (lv_sub hl [1, 2] rfl)
  exact L0 ((s0 268 15 : Int).toNat + 1) s0 H locs ls hF p0 p1 p2 p3 k268_8 k268_58 k268_17 k268_9 k268_10 k268_13 k268_14 k268_16 k268_48 (hz) (hxz.2) (Nat.lt_succ_self _) hW (lv_sub hl [0, 1] rfl)
set_option maxHeartbeats 4000000 in
set_option maxRecDepth 100000 in
theorem c_X11_jumpsK (l : Launch) (D : va_G) (g : xG) (T : Nat × Nat × Nat) (h0 : Nat) (s0 : xS) (hσ : xRR s0) (o : Int) (ro : xR o) (f9 : Int → Int) (n9 : Int) (a9 : Int) (Z : Int × Int × Int × (Int → Int)) (hf : xm8 (s0 276) = f9 ∧ s0 268 10 = n9) (hz : zCQ f9 n9 a9 Z false s0) (ho : (o = 11 ∧ zch f9 n9 (s0 268 9) = 38 ∧ 12 ≤ ztW s0) ∨ (o = 12 ∧ zch f9 n9 (s0 268 9) = 124 ∧ 13 ≤ ztW s0)) (p0 : IMn s0) (p1 : IMk s0) (p2 : IMo s0) (p3 : IR s0) : Met l yX11_jumps (xws yX11_jumps cX11_jumps 2 none) { frames := 1, cells := 0, slots := 0, locals := 22 } (xP [.ref (h0 + 268), .int (xJ o)] D g T h0 s0) (xQv D g h0 (fun τ => xFr (fun k => k = 268 ∨ k = 277 ∨ k = 278) s0 τ ∧ (((IMn τ) ∧ (IMk τ) ∧ (IMo τ) ∧ (IR τ) ∧ (τ 268 8 = s0 268 8) ∧ (τ 268 58 = s0 268 58) ∧ (τ 268 17 = s0 268 17) ∧ (τ 268 10 = s0 268 10) ∧ (τ 268 16 = s0 268 16) ∧ (τ 268 48 = s0 268 48) ∧ True) ∧ (zCQ f9 n9 a9 Z true τ ∧ τ 268 9 = s0 268 9 + 1)))) 0 0 (xA h0) := by
  refine x_met hσ (by decide) (Nat.le_of_ble_eq_true rfl) ?_
  intro p e s m args below meth c hx hb hr hml hown hT hlk hnm hE hW ls hl
  have hl : lv_has ls 2 [(0, .ref (h0 + 268)), (1, .int (xJ o))] := hl
  obtain ⟨Q, eQ⟩ : ∃ Q, Q = MQ below (xQv D g h0 (fun τ => xFr (fun k => k = 268 ∨ k = 277 ∨ k = 278) s0 τ ∧ (((IMn τ) ∧ (IMk τ) ∧ (IMo τ) ∧ (IR τ) ∧ (τ 268 8 = s0 268 8) ∧ (τ 268 58 = s0 268 58) ∧ (τ 268 17 = s0 268 17) ∧ (τ 268 10 = s0 268 10) ∧ (τ 268 16 = s0 268 16) ∧ (τ 268 48 = s0 268 48) ∧ True) ∧ (zCQ f9 n9 a9 Z true τ ∧ τ 268 9 = s0 268 9 + 1)))) args s 0 0 (xA h0) := ⟨_, rfl⟩
  rw [← eQ]
  generalize hHe : ([] : List Loc) = locs at hW ⊢
  obtain ⟨H, eH⟩ : ∃ H, H = s.heap := ⟨_, rfl⟩
  rw [← eH] at hW ⊢
  have hF : xFr (fun k => k = 268 ∨ k = 277 ∨ k = 278) s0 s0 := xFr.rf
  have k268_8 : s0 268 8 = s0 268 8 := rfl
  have k268_58 : s0 268 58 = s0 268 58 := rfl
  have k268_17 : s0 268 17 = s0 268 17 := rfl
  have k268_10 : s0 268 10 = s0 268 10 := rfl
  have k268_16 : s0 268 16 = s0 268 16 := rfl
  have k268_48 : s0 268 48 = s0 268 48 := rfl
  have k268_9 : s0 268 9 = s0 268 9 := rfl
  have k268_13 : s0 268 13 = s0 268 13 := rfl
  have k268_14 : s0 268 14 = s0 268 14 := rfl
  have k268_15 : s0 268 15 = s0 268 15 := rfl
  have hf2 := hf.2
  have b0 := hz.b
  have o0 := hz.o
  have l0 := zch_lt (f := f9) (n := n9) (p := s0 268 9) (by omega)
  refine x_aload_n hx hb hl 0 rfl dX11_jumps_0 rfl ?_
  refine x_get (j := 19) (v := .ref (h0 + 278)) hx hb hown hT hE hW cls_X11 (Or.inl (by decide)) (so_268 h0 g _) (by decide) rfl wq1204 dX11_jumps_1 ?_
  refine x_aload_n hx hb hl 0 rfl dX11_jumps_4 rfl ?_
  refine x_get (j := 15) (v := .int (xJ (s0 268 15))) hx hb hown hT hE hW cls_X11 (Or.inl (by decide)) (so_268 h0 g _) (by decide) rfl wq1200 dX11_jumps_5 ?_
  refine x_rd hW (fun x1 ex1 rx1 => ?_)
  have fx1 : x1 = s0 268 15 := ex1.trans k268_15
  refine lv_ldc (v := xJ 1048576) hx hb hown (hT _ wq1482) dX11_jumps_8 ?_
  refine x_iload_n hx hb hl 1 rfl dX11_jumps_10 rfl ?_
  refine x_imul hx hb dX11_jumps_11 ?_
  refine x_aload_n hx hb hl 0 rfl dX11_jumps_12 rfl ?_
  refine x_get (j := 14) (v := .int (xJ (s0 268 14))) hx hb hown hT hE hW cls_X11 (Or.inl (by decide)) (so_268 h0 g _) (by decide) rfl wq1199 dX11_jumps_13 ?_
  refine x_rd hW (fun x2 ex2 rx2 => ?_)
  have fx2 : x2 = s0 268 14 := ex2.trans k268_14
  refine x_iadd hx hb dX11_jumps_16 ?_
  refine x_iast hx hb hE hW (by decide) (fun σ => sa_278 h0 g σ) (by omega) (by decide) (by omega) dX11_jumps_17 (fun H locs s3 es3 hW => ?_)
  have q4 : IMn s3 := by rw [es3]; exact IMn_o (by unfold suIMn; first | decide | omega) p0
  have q5 : IMk s3 := by rw [es3]; exact IMk_o (by unfold suIMk; first | decide | omega) p1
  have q6 : IMo s3 := by rw [es3]; exact IMo_o (by unfold suIMo; first | decide | omega) p2
  have q7 : IR s3 := by rw [es3]; exact IR_o (by unfold suIR; first | decide | omega) p3
  have q8 : s3 268 8 = s0 268 8 := (show s3 268 8 = s0 268 8 from by rw [es3, xU_k _ _ _ (by first | decide | omega)]).trans k268_8
  have q9 : s3 268 58 = s0 268 58 := (show s3 268 58 = s0 268 58 from by rw [es3, xU_k _ _ _ (by first | decide | omega)]).trans k268_58
  have q10 : s3 268 17 = s0 268 17 := (show s3 268 17 = s0 268 17 from by rw [es3, xU_k _ _ _ (by first | decide | omega)]).trans k268_17
  have q11 : s3 268 10 = s0 268 10 := (show s3 268 10 = s0 268 10 from by rw [es3, xU_k _ _ _ (by first | decide | omega)]).trans k268_10
  have q12 : s3 268 16 = s0 268 16 := (show s3 268 16 = s0 268 16 from by rw [es3, xU_k _ _ _ (by first | decide | omega)]).trans k268_16
  have q13 : s3 268 48 = s0 268 48 := (show s3 268 48 = s0 268 48 from by rw [es3, xU_k _ _ _ (by first | decide | omega)]).trans k268_48
  have q14 : s3 268 9 = s0 268 9 := (show s3 268 9 = s0 268 9 from by rw [es3, xU_k _ _ _ (by first | decide | omega)]).trans k268_9
  have q15 : s3 268 13 = s0 268 13 := (show s3 268 13 = s0 268 13 from by rw [es3, xU_k _ _ _ (by first | decide | omega)]).trans k268_13
  have q16 : s3 268 14 = s0 268 14 := (show s3 268 14 = s0 268 14 from by rw [es3, xU_k _ _ _ (by first | decide | omega)]).trans k268_14
  have q17 : s3 268 15 = s0 268 15 := (show s3 268 15 = s0 268 15 from by rw [es3, xU_k _ _ _ (by first | decide | omega)]).trans k268_15
  have hF18 := hF.put es3 (by omega)
  have E17 := es3
  have I17 : x1 = s0 268 15 := by omega
  have W17 : ((1048576 * o) + x2) = 1048576 * o + s0 268 14 := by omega
  refine x_aload_n hx hb hl 0 rfl dX11_jumps_18 rfl ?_
  refine x_aload_n hx hb hl 0 rfl dX11_jumps_19 rfl ?_
  refine x_get (j := 15) (v := .int (xJ (s3 268 15))) hx hb hown hT hE hW cls_X11 (Or.inl (by decide)) (so_268 h0 g _) (by decide) rfl wq1200 dX11_jumps_20 ?_
  refine x_rd hW (fun x19 ex19 rx19 => ?_)
  have fx19 : x19 = s0 268 15 := ex19.trans q17
  refine x_iconst hx hb dX11_jumps_23 ?_
  refine x_iadd hx hb dX11_jumps_24 ?_
  refine x_put (j := 15) hx hb hown hT hE hW cls_X11 (by decide) (fun σ => so_268 h0 g σ) (by decide) (st_X11_15 h0 s3 268 (x19 + 1)) (ln_X11_15 h0 _ _) wq1200 rfl rfl rfl (by omega) dX11_jumps_25 (fun H locs s20 es20 hW => ?_)
  have q21 : IMn s20 := by rw [es20]; exact IMn_268 q4 (by omega)
  have q22 : IMk s20 := by rw [es20]; exact IMk_268 q5 (by omega)
  have q23 : IMo s20 := by rw [es20]; exact IMo_o (by unfold suIMo; first | decide | omega) q6
  have q24 : IR s20 := by rw [es20]; exact IR_268 q7 (by omega)
  have q25 : s20 268 8 = s0 268 8 := (show s20 268 8 = s3 268 8 from by rw [es20, xU_j _ _ (by decide)]).trans q8
  have q26 : s20 268 58 = s0 268 58 := (show s20 268 58 = s3 268 58 from by rw [es20, xU_j _ _ (by decide)]).trans q9
  have q27 : s20 268 17 = s0 268 17 := (show s20 268 17 = s3 268 17 from by rw [es20, xU_j _ _ (by decide)]).trans q10
  have q28 : s20 268 10 = s0 268 10 := (show s20 268 10 = s3 268 10 from by rw [es20, xU_j _ _ (by decide)]).trans q11
  have q29 : s20 268 16 = s0 268 16 := (show s20 268 16 = s3 268 16 from by rw [es20, xU_j _ _ (by decide)]).trans q12
  have q30 : s20 268 48 = s0 268 48 := (show s20 268 48 = s3 268 48 from by rw [es20, xU_j _ _ (by decide)]).trans q13
  have q31 : s20 268 9 = s0 268 9 := (show s20 268 9 = s3 268 9 from by rw [es20, xU_j _ _ (by decide)]).trans q14
  have q32 : s20 268 13 = s0 268 13 := (show s20 268 13 = s3 268 13 from by rw [es20, xU_j _ _ (by decide)]).trans q15
  have q33 : s20 268 14 = s0 268 14 := (show s20 268 14 = s3 268 14 from by rw [es20, xU_j _ _ (by decide)]).trans q16
  have q34 : s20 268 15 = (x19 + 1) := by rw [es20, xU_s]
  have hF35 := hF18.put es20 (by omega)
  have E25 := es20
  refine x_aload_n hx hb hl 0 rfl dX11_jumps_28 rfl ?_
  refine x_iload_n hx hb hl 1 rfl dX11_jumps_29 rfl ?_
  refine x_iconst hx hb dX11_jumps_30 ?_
  refine x_gov (x_runV (As := [.int (xJ o), .int (xJ 0)]) hx hb hml hown hT hE hW hl.1 (Or.inl (by decide)) (so_268 h0 g _) rfl cf_X11_notes wq1493 wq121 wq1491 (c_X11_notesK l D g T h0 s20 hW.2.1 o ro 0 (by decide) (by omega) (by omega) (by omega) q21 q22 q23 q24) ⟨rfl, rfl, ⟨by decide, by decide⟩, ⟨by decide, by decide⟩⟩ rfl rfl (Nat.le_of_ble_eq_true rfl) dX11_jumps_31) hW (fun s37 H locs hp38 hW => ?_)
  obtain ⟨fs37, hp38⟩ := hp38
  have hF39 := hF35.call fs37 (fun k h => by omega)
  have ghp38 := hp38.2
  have H31 := ghp38
  have F31 := fs37
  refine x_aload_n hx hb hl 0 rfl dX11_jumps_34 rfl ?_
  refine x_aload_n hx hb hl 0 rfl dX11_jumps_35 rfl ?_
  refine x_get (j := 9) (v := .int (xJ (s37 268 9))) hx hb hown hT hE hW cls_X11 (Or.inl (by decide)) (so_268 h0 g _) (by decide) rfl wq1194 dX11_jumps_36 ?_
  refine x_rd hW (fun x40 ex40 rx40 => ?_)
  have bx40 : 0 ≤ x40 ∧ x40 ≤ s37 268 10 ∧ s37 268 10 ≤ 240 := by rw [ex40]; exact hp38.1.2.2.2.1
  have fx40 : x40 = s0 268 9 := ex40.trans (hp38.1.2.2.2.2.2.2.2.1.trans q31)
  refine x_iconst hx hb dX11_jumps_39 ?_
  refine x_iadd hx hb dX11_jumps_40 ?_
  refine x_put (j := 9) hx hb hown hT hE hW cls_X11 (by decide) (fun σ => so_268 h0 g σ) (by decide) (st_X11_9 h0 s37 268 (x40 + 1)) (ln_X11_9 h0 _ _) wq1194 rfl rfl rfl (by omega) dX11_jumps_41 (fun H locs s41 es41 hW => ?_)
  have q42 : IMn s41 := by rw [es41]; exact IMn_268 hp38.1.1 (by omega)
  have q43 : IMk s41 := by rw [es41]; exact IMk_268 hp38.1.2.1 (by omega)
  have q44 : IMo s41 := by rw [es41]; exact IMo_o (by unfold suIMo; first | decide | omega) hp38.1.2.2.1
  have q45 : IR s41 := by rw [es41]; exact IR_268 hp38.1.2.2.2.1 (by omega)
  have q46 : s41 268 8 = s0 268 8 := (show s41 268 8 = s37 268 8 from by rw [es41, xU_j _ _ (by decide)]).trans (hp38.1.2.2.2.2.1.trans q25)
  have q47 : s41 268 58 = s0 268 58 := (show s41 268 58 = s37 268 58 from by rw [es41, xU_j _ _ (by decide)]).trans (hp38.1.2.2.2.2.2.1.trans q26)
  have q48 : s41 268 17 = s0 268 17 := (show s41 268 17 = s37 268 17 from by rw [es41, xU_j _ _ (by decide)]).trans (hp38.1.2.2.2.2.2.2.1.trans q27)
  have q49 : s41 268 9 = (x40 + 1) := by rw [es41, xU_s]
  have q50 : s41 268 10 = s0 268 10 := (show s41 268 10 = s37 268 10 from by rw [es41, xU_j _ _ (by decide)]).trans (hp38.1.2.2.2.2.2.2.2.2.1.trans q28)
  have q51 : s41 268 13 = s0 268 13 := (show s41 268 13 = s37 268 13 from by rw [es41, xU_j _ _ (by decide)]).trans (hp38.1.2.2.2.2.2.2.2.2.2.1.trans q32)
  have q52 : s41 268 15 = (x19 + 1) := (show s41 268 15 = s37 268 15 from by rw [es41, xU_j _ _ (by decide)]).trans (hp38.1.2.2.2.2.2.2.2.2.2.2.1.trans q34)
  have q53 : s41 268 16 = s0 268 16 := (show s41 268 16 = s37 268 16 from by rw [es41, xU_j _ _ (by decide)]).trans (hp38.1.2.2.2.2.2.2.2.2.2.2.2.1.trans q29)
  have q54 : s41 268 48 = s0 268 48 := (show s41 268 48 = s37 268 48 from by rw [es41, xU_j _ _ (by decide)]).trans (hp38.1.2.2.2.2.2.2.2.2.2.2.2.2.1.trans q30)
  have hF55 := hF39.put es41 (by omega)
  have E41 := es41
  rw [eQ]
  exact x_vret hx hb hr hlk hW ⟨hF55, ⟨q42, q43, q44, q45, q46, q47, q48, q50, q53, q54, trivial⟩, ⟨hz.jump (v := 1048576 * o + s0 268 14) ho rfl rfl (by omega) (by rw [E41, xU_j _ _ (by decide), H31.2, E25, xU_j _ _ (by decide), E17, xU_k _ _ _ (by first | decide | omega)]) (by rw [E41, xU_k _ _ _ (by first | decide | omega), H31.1, E25, xU_k _ _ _ (by first | decide | omega), xU_j _ _ (by decide), E17, xU_k _ _ _ (by first | decide | omega), xU_k _ _ _ (by first | decide | omega), Int.add_zero]) (by omega) (by omega) (by rw [E41, xU_k _ _ _ (by first | decide | omega), F31 278 (by omega), E25, xU_k _ _ _ (by first | decide | omega), E17, xU_xud, I17, W17]), by omega⟩⟩ dX11_jumps_44
set_option maxHeartbeats 4000000 in
set_option maxRecDepth 100000 in
theorem c_X11_readsComparedK (l : Launch) (D : va_G) (g : xG) (T : Nat × Nat × Nat) (h0 : Nat) (s0 : xS) (hσ : xRR s0) (f9 : Int → Int) (n9 : Int) (a9 : Int) (Z : Int × Int × Int × (Int → Int)) (hf : xm8 (s0 276) = f9 ∧ s0 268 10 = n9) (hz : zCQ f9 n9 a9 Z true s0) (hc : zch f9 n9 (s0 268 9) ≠ 33 ∧ zch f9 n9 (s0 268 9) ≠ 40) (p0 : IMn s0) (p1 : IMk s0) (p2 : IMo s0) (p3 : IR s0) : Met l yX11_readsCompared (xws yX11_readsCompared cX11_readsCompared 2 (some .boolean)) { frames := 5, cells := 0, slots := 0, locals := 104 } (xP [.ref (h0 + 268)] D g T h0 s0) (xQi D g h0 (fun r τ => xFr (fun k => k = 268 ∨ k = 277 ∨ k = 278) s0 τ ∧ (((IMn τ) ∧ (IMk τ) ∧ (IMo τ) ∧ (IR τ) ∧ (τ 268 8 = s0 268 8) ∧ (τ 268 58 = s0 268 58) ∧ (τ 268 17 = s0 268 17) ∧ (τ 268 10 = s0 268 10) ∧ (τ 268 16 = s0 268 16) ∧ (τ 268 48 = s0 268 48) ∧ True) ∧ ((r = 0 ∧ Z.1 ≠ 0 ∧ τ 268 11 = Z.1) ∨ (r = 1 ∧ zCQ f9 n9 a9 Z false τ ∧ ztW τ ≠ 10 ∧ 0 < τ 268 15 ∧ s0 268 9 + 1 ≤ τ 268 9))))) 0 0 (xA h0) := by
  refine x_met hσ (by decide) (Nat.le_of_ble_eq_true rfl) ?_
  intro p e s m args below meth c hx hb hr hml hown hT hlk hnm hE hW ls hl
  have hl : lv_has ls 2 [(0, .ref (h0 + 268))] := hl
  obtain ⟨Q, eQ⟩ : ∃ Q, Q = MQ below (xQi D g h0 (fun r τ => xFr (fun k => k = 268 ∨ k = 277 ∨ k = 278) s0 τ ∧ (((IMn τ) ∧ (IMk τ) ∧ (IMo τ) ∧ (IR τ) ∧ (τ 268 8 = s0 268 8) ∧ (τ 268 58 = s0 268 58) ∧ (τ 268 17 = s0 268 17) ∧ (τ 268 10 = s0 268 10) ∧ (τ 268 16 = s0 268 16) ∧ (τ 268 48 = s0 268 48) ∧ True) ∧ ((r = 0 ∧ Z.1 ≠ 0 ∧ τ 268 11 = Z.1) ∨ (r = 1 ∧ zCQ f9 n9 a9 Z false τ ∧ ztW τ ≠ 10 ∧ 0 < τ 268 15 ∧ s0 268 9 + 1 ≤ τ 268 9))))) args s 0 0 (xA h0) := ⟨_, rfl⟩
  rw [← eQ]
  generalize hHe : ([] : List Loc) = locs at hW ⊢
  obtain ⟨H, eH⟩ : ∃ H, H = s.heap := ⟨_, rfl⟩
  rw [← eH] at hW ⊢
  have hF : xFr (fun k => k = 268 ∨ k = 277 ∨ k = 278) s0 s0 := xFr.rf
  have k268_8 : s0 268 8 = s0 268 8 := rfl
  have k268_58 : s0 268 58 = s0 268 58 := rfl
  have k268_17 : s0 268 17 = s0 268 17 := rfl
  have k268_10 : s0 268 10 = s0 268 10 := rfl
  have k268_16 : s0 268 16 = s0 268 16 := rfl
  have k268_48 : s0 268 48 = s0 268 48 := rfl
  have k268_9 : s0 268 9 = s0 268 9 := rfl
  have k268_13 : s0 268 13 = s0 268 13 := rfl
  have k268_14 : s0 268 14 = s0 268 14 := rfl
  have k268_15 : s0 268 15 = s0 268 15 := rfl
  have hf2 := hf.2
  have b0 := hz.b
  have o0 := hz.o
  have w0 := hz.ne
  refine x_aload_n hx hb hl 0 rfl dX11_readsCompared_0 rfl ?_
  refine x_goi (x_runV (As := []) hx hb hml hown hT hE hW hl.1 (Or.inl (by decide)) (so_268 h0 g _) rfl cf_X11_readsSum wq1472 wq116 wq1470 (c_X11_readsSumK l D g T h0 s0 hW.2.1 f9 n9 (s0 268 13) (znN (zls (s0 278) 0 (s0 268 15 - 0).toNat)) (by first | exact hf | exact ⟨by rw [hF 276 (by omega)]; exact hf.1, by omega⟩) (by omega) (by omega) (hz.hb) p0 p1 p2 p3) ⟨rfl, rfl, ⟨by decide, by decide⟩, ⟨by decide, by decide⟩⟩ rfl rfl (Nat.le_of_ble_eq_true rfl) dX11_readsCompared_1) hW (fun x1 s2 H locs rx1 hp3 hW => ?_)
  obtain ⟨fs2, hp3⟩ := hp3
  have hF4 := hF.call fs2 (fun k h => by omega)
  have ghp3 := hp3.2
  have H1 := ghp3
  refine x_if_ne (tgt := 9) hx hb rx1 dX11_readsCompared_4 (by decide) (fun c5 => ?_) (fun c5 => ?_)
  · skip
    refine x_aload_n hx hb hl 0 rfl dX11_readsCompared_9 rfl ?_
    refine x_goi (x_runV (As := []) hx hb hml hown hT hE hW hl.1 (Or.inl (by decide)) (so_268 h0 g _) rfl cf_X11_here wq1391 wq106 wq1389 (c_X11_here l D g T h0 s2 hW.2.1 hp3.1.1 hp3.1.2.1 hp3.1.2.2.1 hp3.1.2.2.2.1) ⟨rfl, rfl, ⟨by decide, by decide⟩, ⟨by decide, by decide⟩⟩ rfl rfl (Nat.le_of_ble_eq_true rfl) dX11_readsCompared_10) hW (fun x6 s7 H locs rx6 hp8 hW => ?_)
    obtain ⟨es7, hp8⟩ := hp8
    subst es7
    have ghp8 := hp8
    have h1 := (H1.resolve_left (fun q => by omega)).2
    obtain ⟨p1, ep1⟩ : ∃ p : Int, p = s2 268 9 := ⟨_, rfl⟩
    obtain ⟨q1, eq1⟩ : ∃ p : Int, p = s2 268 14 := ⟨_, rfl⟩
    obtain ⟨K1, eK1⟩ : ∃ K, K = s2 277 := ⟨_, rfl⟩
    have e1 := h1.1
    rw [← ep1, ← eq1, ← eK1] at e1
    have C10 : x6 = zch f9 n9 (s2 268 9) := by
      have q8 := ghp8.1
      rw [zhC_ch, show s2 276 = s0 276 from hF4 276 (by first | decide | omega), hf.1, show s2 268 10 = n9 from by omega] at q8
      exact q8
    rw [← ep1] at C10
    have Z10 := zcp_cs (zch f9 n9 p1)
    have L10 : zch f9 n9 p1 ≠ -1 → p1 < n9 := zch_lt
    refine x_bipush hx hb dX11_readsCompared_13 (by decide) ?_
    have J52 : ∀ (t0_52 : Int) (H : Heap) (locs : List Loc) (ls : Array Slot), (xR t0_52) → (t0_52 = zcp (zch f9 n9 p1)) → xW D g h0 s H locs s2 → lv_has ls 2 [(0, .ref (h0 + 268))] → W p l e { frames := 5, cells := 0, slots := 0, locals := 104 } s m args below meth c H locs 0 0 Q (F0 m 52 ls [.int (xJ t0_52)]) := by
      intro t0_52 H locs ls rt0_52 v52_0 hW hl
      refine lv_istore_n (lv' := [(1, .int (xJ t0_52)), (0, .ref (h0 + 268))]) hx hb dX11_readsCompared_52 rfl hl (by decide) rfl (fun ls hl => ?_)
      refine x_iload_n hx hb hl 0 rfl dX11_readsCompared_53 rfl ?_
      refine x_iconst hx hb dX11_readsCompared_54 ?_
      refine x_icmp_ne (tgt := 68) hx hb rt0_52 (by decide) dX11_readsCompared_55 (by decide) (fun c9 => ?_) (fun c9 => ?_)
      · skip
        refine x_aload_n hx hb hl 1 rfl dX11_readsCompared_68 rfl ?_
        refine x_aload_n hx hb hl 1 rfl dX11_readsCompared_69 rfl ?_
        refine x_get (j := 9) (v := .int (xJ (s2 268 9))) hx hb hown hT hE hW cls_X11 (Or.inl (by decide)) (so_268 h0 g _) (by decide) rfl wq1194 dX11_readsCompared_70 ?_
        refine x_rd hW (fun x10 ex10 rx10 => ?_)
        have bx10 : 0 ≤ x10 ∧ x10 ≤ s2 268 10 ∧ s2 268 10 ≤ 240 := by rw [ex10]; exact hp3.1.2.2.2.1
        have q11 : s2 268 9 = x10 := ex10.symm
        refine x_iconst hx hb dX11_readsCompared_73 ?_
        refine x_iadd hx hb dX11_readsCompared_74 ?_
        refine x_put (j := 9) hx hb hown hT hE hW cls_X11 (by decide) (fun σ => so_268 h0 g σ) (by decide) (st_X11_9 h0 s2 268 (x10 + 1)) (ln_X11_9 h0 _ _) wq1194 rfl rfl rfl (by omega) dX11_readsCompared_75 (fun H locs s12 es12 hW => ?_)
        have q13 : IMn s12 := by rw [es12]; exact IMn_268 hp3.1.1 (by omega)
        have q14 : IMk s12 := by rw [es12]; exact IMk_268 hp3.1.2.1 (by omega)
        have q15 : IMo s12 := by rw [es12]; exact IMo_o (by unfold suIMo; first | decide | omega) hp3.1.2.2.1
        have q16 : IR s12 := by rw [es12]; exact IR_268 hp3.1.2.2.2.1 (by omega)
        have q17 : s12 268 8 = s0 268 8 := (show s12 268 8 = s2 268 8 from by rw [es12, xU_j _ _ (by decide)]).trans (hp3.1.2.2.2.2.1.trans k268_8)
        have q18 : s12 268 58 = s0 268 58 := (show s12 268 58 = s2 268 58 from by rw [es12, xU_j _ _ (by decide)]).trans (hp3.1.2.2.2.2.2.1.trans k268_58)
        have q19 : s12 268 17 = s0 268 17 := (show s12 268 17 = s2 268 17 from by rw [es12, xU_j _ _ (by decide)]).trans (hp3.1.2.2.2.2.2.2.1.trans k268_17)
        have q20 : s12 268 10 = s0 268 10 := (show s12 268 10 = s2 268 10 from by rw [es12, xU_j _ _ (by decide)]).trans (hp3.1.2.2.2.2.2.2.2.1.trans k268_10)
        have q21 : s12 268 16 = s0 268 16 := (show s12 268 16 = s2 268 16 from by rw [es12, xU_j _ _ (by decide)]).trans (hp3.1.2.2.2.2.2.2.2.2.1.trans k268_16)
        have q22 : s12 268 48 = s0 268 48 := (show s12 268 48 = s2 268 48 from by rw [es12, xU_j _ _ (by decide)]).trans (hp3.1.2.2.2.2.2.2.2.2.2.1.trans k268_48)
        have q23 : s12 268 9 = (x10 + 1) := by rw [es12, xU_s]
        have hF24 := hF4.put es12 (by omega)
        have E75 := es12
        have R75 : s12 268 13 = s0 268 13 ∧ s12 268 15 = s0 268 15 := ⟨by rw [E75, xU_j _ _ (by decide)]; exact h1.2.2.2.1, by rw [E75, xU_j _ _ (by decide)]; exact h1.2.2.1⟩
        have Q75 : s12 268 9 = p1 + 1 ∧ s12 268 14 = q1 ∧ s12 277 = K1 := ⟨by omega, by rw [E75, xU_j _ _ (by decide)]; exact eq1.symm, by rw [E75, xU_k _ _ _ (by first | decide | omega)]; exact eK1.symm⟩
        refine x_aload_n hx hb hl 1 rfl dX11_readsCompared_78 rfl ?_
        refine x_goi (x_runV (As := []) hx hb hml hown hT hE hW hl.1 (Or.inl (by decide)) (so_268 h0 g _) rfl cf_X11_readsSum wq1472 wq116 wq1470 (c_X11_readsSumK l D g T h0 s12 hW.2.1 f9 n9 (s0 268 13) ((znN (zls (s0 278) 0 (s0 268 15 - 0).toNat)) + 1) (by first | exact hf | exact ⟨by rw [hF24 276 (by first | decide | omega)]; exact hf.1, by omega⟩) (by omega) (by omega) (by rw [show s12 268 15 = s0 268 15 from by omega]; exact hz.hb.elim Or.inl (fun q => Or.inr (by rw [E75, xU_k _ _ _ (by first | decide | omega), h1.2.2.2.2.1 _ (by omega)]; exact q))) q13 q14 q15 q16) ⟨rfl, rfl, ⟨by decide, by decide⟩, ⟨by decide, by decide⟩⟩ rfl rfl (Nat.le_of_ble_eq_true rfl) dX11_readsCompared_79) hW (fun x25 s26 H locs rx25 hp27 hW => ?_)
        obtain ⟨fs26, hp27⟩ := hp27
        have hF28 := hF24.call fs26 (fun k h => by omega)
        have ghp27 := hp27.2
        have H79 := ghp27
        have H79 := ghp27
        obtain ⟨p2, ep2⟩ : ∃ p : Int, p = s26 268 9 := ⟨_, rfl⟩
        refine x_if_ne (tgt := 87) hx hb rx25 dX11_readsCompared_82 (by decide) (fun c29 => ?_) (fun c29 => ?_)
        · skip
          refine x_aload_n hx hb hl 1 rfl dX11_readsCompared_87 rfl ?_
          have h2 := (H79.resolve_left (fun q => by omega)).2
          have r87 : 0 ≤ s26 268 9 ∧ s26 268 9 ≤ s26 268 10 ∧ s26 268 10 ≤ 240 := hp27.1.2.2.2.1
          refine x_iload_n hx hb hl 0 rfl dX11_readsCompared_88 rfl ?_
          refine x_iconst hx hb dX11_readsCompared_89 ?_
          refine x_gov (x_runV (As := [.int (xJ t0_52), .int (xJ 0)]) hx hb hml hown hT hE hW hl.1 (Or.inl (by decide)) (so_268 h0 g _) rfl cf_X11_notes wq1493 wq121 wq1491 (c_X11_notesK l D g T h0 s26 hW.2.1 t0_52 rt0_52 0 (by decide) (by omega) (by omega) (by omega) hp27.1.1 hp27.1.2.1 hp27.1.2.2.1 hp27.1.2.2.2.1) ⟨rfl, rfl, ⟨by decide, by decide⟩, ⟨by decide, by decide⟩⟩ rfl rfl (Nat.le_of_ble_eq_true rfl) dX11_readsCompared_90) hW (fun s31 H locs hp32 hW => ?_)
          obtain ⟨fs31, hp32⟩ := hp32
          have hF33 := hF28.call fs31 (fun k h => by omega)
          have ghp32 := hp32.2
          have H90 := ghp32
          have F90 := fs31
          have e2 := h2.1
          rw [Q75.1, Q75.2.1, Q75.2.2] at e2
          have X90 : zCQ f9 n9 a9 Z false s31 := hz.cmp hc e1 (by omega) e2 (by omega) (fun k hk => by rw [h2.2.2.2.2.2.2.2.2 k (by omega), E75, xU_k _ _ _ (by first | decide | omega)]; exact h1.2.2.2.2.2.2.2.2 k hk) rfl (by omega) (by omega) (by rw [H90.1]; congr 1; omega) (by omega) (by omega) (fun i hi => by rw [F90 278 (by omega), h2.2.2.2.2.1 i (by omega), E75, xU_k _ _ _ (by first | decide | omega)]; exact h1.2.2.2.2.1 i hi)
          refine x_aload_n hx hb hl 1 rfl dX11_readsCompared_93 rfl ?_
          refine x_gov (x_runV (As := []) hx hb hml hown hT hE hW hl.1 (Or.inl (by decide)) (so_268 h0 g _) rfl cf_X11_endsPiece wq1523 wq127 wq1521 (c_X11_endsPieceK l D g T h0 s31 hW.2.1 f9 n9 a9 Z (by first | exact hf | exact ⟨by rw [hF33 276 (by first | decide | omega)]; exact hf.1, by omega⟩) (X90) (by omega) hp32.1.1 hp32.1.2.1 hp32.1.2.2.1 hp32.1.2.2.2.1) ⟨rfl, rfl, ⟨by decide, by decide⟩, ⟨by decide, by decide⟩⟩ rfl rfl (Nat.le_of_ble_eq_true rfl) dX11_readsCompared_94) hW (fun s35 H locs hp36 hW => ?_)
          obtain ⟨fs35, hp36⟩ := hp36
          have hF37 := hF33.call fs35 (fun k h => by omega)
          have ghp36 := hp36.2
          have H94 := ghp36
          refine x_iconst hx hb dX11_readsCompared_97 ?_
          rw [eQ]
          exact x_zret hx hb hr hlk hW (by omega) ⟨hF37, ⟨hp36.1.1, hp36.1.2.1, hp36.1.2.2.1, hp36.1.2.2.2.1, (hp36.1.2.2.2.2.1.trans (hp32.1.2.2.2.2.1.trans (hp27.1.2.2.2.2.1.trans q17))), (hp36.1.2.2.2.2.2.1.trans (hp32.1.2.2.2.2.2.1.trans (hp27.1.2.2.2.2.2.1.trans q18))), (hp36.1.2.2.2.2.2.2.1.trans (hp32.1.2.2.2.2.2.2.1.trans (hp27.1.2.2.2.2.2.2.1.trans q19))), (hp36.1.2.2.2.2.2.2.2.2.1.trans (hp32.1.2.2.2.2.2.2.2.2.1.trans (hp27.1.2.2.2.2.2.2.2.1.trans q20))), (hp36.1.2.2.2.2.2.2.2.2.2.1.trans (hp32.1.2.2.2.2.2.2.2.2.2.2.2.1.trans (hp27.1.2.2.2.2.2.2.2.2.1.trans q21))), (hp36.1.2.2.2.2.2.2.2.2.2.2.1.trans (hp32.1.2.2.2.2.2.2.2.2.2.2.2.2.1.trans (hp27.1.2.2.2.2.2.2.2.2.2.1.trans q22))), trivial⟩, Or.inr ⟨by omega, H94.1, H94.2.1, H94.2.2, by omega⟩⟩ dX11_readsCompared_98
        refine x_iconst hx hb dX11_readsCompared_85 ?_
        rw [eQ]
        exact x_zret hx hb hr hlk hW (by omega) ⟨hF28, ⟨hp27.1.1, hp27.1.2.1, hp27.1.2.2.1, hp27.1.2.2.2.1, (hp27.1.2.2.2.2.1.trans q17), (hp27.1.2.2.2.2.2.1.trans q18), (hp27.1.2.2.2.2.2.2.1.trans q19), (hp27.1.2.2.2.2.2.2.2.1.trans q20), (hp27.1.2.2.2.2.2.2.2.2.1.trans q21), (hp27.1.2.2.2.2.2.2.2.2.2.1.trans q22), trivial⟩, by
            have e := H79.resolve_right (fun q => by omega)
            rw [Q75.1, Q75.2.1, Q75.2.2] at e
            have z := hz.1.e2 hc (by rw [← hz.2.2.1]; exact e1) (by omega) (by rw [← hz.2.2.1]; exact e.2.1)
            rw [z, ← hz.2.2.1]
            exact Or.inl ⟨by omega, e.2.1, e.2.2⟩⟩ dX11_readsCompared_86
      refine x_aload_n hx hb hl 1 rfl dX11_readsCompared_58 rfl ?_
      refine x_iconst hx hb dX11_readsCompared_59 ?_
      refine x_aload_n hx hb hl 1 rfl dX11_readsCompared_60 rfl ?_
      refine x_get (j := 9) (v := .int (xJ (s2 268 9))) hx hb hown hT hE hW cls_X11 (Or.inl (by decide)) (so_268 h0 g _) (by decide) rfl wq1194 dX11_readsCompared_61 ?_
      refine x_rd hW (fun x38 ex38 rx38 => ?_)
      have bx38 : 0 ≤ x38 ∧ x38 ≤ s2 268 10 ∧ s2 268 10 ≤ 240 := by rw [ex38]; exact hp3.1.2.2.2.1
      have q39 : s2 268 9 = x38 := ex38.symm
      refine x_goi (x_runV (As := [.int (xJ 1), .int (xJ x38)]) hx hb hml hown hT hE hW hl.1 (Or.inl (by decide)) (so_268 h0 g _) rfl cf_X11_wrongAt wq1401 wq107 wq1399 (c_X11_wrongAtK l D g T h0 s2 hW.2.1 1 (by decide) x38 rx38 (by omega) hp3.1.1 hp3.1.2.1 hp3.1.2.2.1 hp3.1.2.2.2.1) ⟨rfl, rfl, ⟨by decide, by decide⟩, ⟨by decide, by decide⟩⟩ rfl rfl (Nat.le_of_ble_eq_true rfl) dX11_readsCompared_64) hW (fun x40 s41 H locs rx40 hp42 hW => ?_)
      obtain ⟨fs41, hp42⟩ := hp42
      have hF43 := hF4.call fs41 (fun k h => by omega)
      have ghp42 := hp42.2
      rw [eQ]
      exact x_zret hx hb hr hlk hW (by omega) ⟨hF43, ⟨hp42.1.1, hp42.1.2.1, hp42.1.2.2.1, hp42.1.2.2.2.1, (hp42.1.2.2.2.2.1.trans (hp3.1.2.2.2.2.1.trans k268_8)), (hp42.1.2.2.2.2.2.1.trans (hp3.1.2.2.2.2.2.1.trans k268_58)), (hp42.1.2.2.2.2.2.2.1.trans (hp3.1.2.2.2.2.2.2.1.trans k268_17)), (hp42.1.2.2.2.2.2.2.2.2.1.trans (hp3.1.2.2.2.2.2.2.2.1.trans k268_10)), (hp42.1.2.2.2.2.2.2.2.2.2.2.2.2.1.trans (hp3.1.2.2.2.2.2.2.2.2.1.trans k268_16)), (hp42.1.2.2.2.2.2.2.2.2.2.2.2.2.2.1.trans (hp3.1.2.2.2.2.2.2.2.2.2.1.trans k268_48)), trivial⟩, by
          have z := hz.1.one hc (by rw [← hz.2.2.1]; exact e1) (by omega)
          rw [z]
          exact Or.inl ⟨by omega, (by show (-1000 - _ : Int) ≠ 0; omega), (by show _ = (-1000 - _ : Int); omega)⟩⟩ dX11_readsCompared_67
    refine x_icmp_ne (tgt := 23) hx hb rx6 (by decide) dX11_readsCompared_15 (by decide) (fun c44 => ?_) (fun c44 => ?_)
    · skip
      refine x_aload_n hx hb hl 0 rfl dX11_readsCompared_23 rfl ?_
      refine x_goi (x_runV (As := []) hx hb hml hown hT hE hW hl.1 (Or.inl (by decide)) (so_268 h0 g _) rfl cf_X11_here wq1391 wq106 wq1389 (c_X11_here l D g T h0 s2 hW.2.1 hp3.1.1 hp3.1.2.1 hp3.1.2.2.1 hp3.1.2.2.2.1) ⟨rfl, rfl, ⟨by decide, by decide⟩, ⟨by decide, by decide⟩⟩ rfl rfl (Nat.le_of_ble_eq_true rfl) dX11_readsCompared_24) hW (fun x45 s46 H locs rx45 hp47 hW => ?_)
      obtain ⟨es46, hp47⟩ := hp47
      subst es46
      have ghp47 := hp47
      have C24 : x45 = zch f9 n9 (s2 268 9) := by
        have q8 := ghp47.1
        rw [zhC_ch, show s2 276 = s0 276 from hF4 276 (by first | decide | omega), hf.1, show s2 268 10 = n9 from by omega] at q8
        exact q8
      rw [← ep1] at C24
      refine x_bipush hx hb dX11_readsCompared_27 (by decide) ?_
      refine x_icmp_ne (tgt := 37) hx hb rx45 (by decide) dX11_readsCompared_29 (by decide) (fun c48 => ?_) (fun c48 => ?_)
      · skip
        refine x_aload_n hx hb hl 0 rfl dX11_readsCompared_37 rfl ?_
        refine x_goi (x_runV (As := []) hx hb hml hown hT hE hW hl.1 (Or.inl (by decide)) (so_268 h0 g _) rfl cf_X11_here wq1391 wq106 wq1389 (c_X11_here l D g T h0 s2 hW.2.1 hp3.1.1 hp3.1.2.1 hp3.1.2.2.1 hp3.1.2.2.2.1) ⟨rfl, rfl, ⟨by decide, by decide⟩, ⟨by decide, by decide⟩⟩ rfl rfl (Nat.le_of_ble_eq_true rfl) dX11_readsCompared_38) hW (fun x49 s50 H locs rx49 hp51 hW => ?_)
        obtain ⟨es50, hp51⟩ := hp51
        subst es50
        have ghp51 := hp51
        have C38 : x49 = zch f9 n9 (s2 268 9) := by
          have q8 := ghp51.1
          rw [zhC_ch, show s2 276 = s0 276 from hF4 276 (by first | decide | omega), hf.1, show s2 268 10 = n9 from by omega] at q8
          exact q8
        rw [← ep1] at C38
        refine x_bipush hx hb dX11_readsCompared_41 (by decide) ?_
        refine x_icmp_ne (tgt := 51) hx hb rx49 (by decide) dX11_readsCompared_43 (by decide) (fun c52 => ?_) (fun c52 => ?_)
        · skip
          refine x_iconst hx hb dX11_readsCompared_51 ?_
          exact J52 (-1) H locs ls (by decide) (by omega) hW (lv_sub hl [0] rfl)
        refine x_bipush hx hb dX11_readsCompared_46 (by decide) ?_
        refine lv_goto (tgt := 52) hx hb dX11_readsCompared_48 (by decide) ?_
        exact J52 9 H locs ls (by decide) (by omega) hW (lv_sub hl [0] rfl)
      refine x_bipush hx hb dX11_readsCompared_32 (by decide) ?_
      refine lv_goto (tgt := 52) hx hb dX11_readsCompared_34 (by decide) ?_
      exact J52 8 H locs ls (by decide) (by omega) hW (lv_sub hl [0] rfl)
    refine x_bipush hx hb dX11_readsCompared_18 (by decide) ?_
    refine lv_goto (tgt := 52) hx hb dX11_readsCompared_20 (by decide) ?_
    exact J52 7 H locs ls (by decide) (by omega) hW (lv_sub hl [0] rfl)
  refine x_iconst hx hb dX11_readsCompared_7 ?_
  rw [eQ]
  exact x_zret hx hb hr hlk hW (by omega) ⟨hF4, ⟨hp3.1.1, hp3.1.2.1, hp3.1.2.2.1, hp3.1.2.2.2.1, (hp3.1.2.2.2.2.1.trans k268_8), (hp3.1.2.2.2.2.2.1.trans k268_58), (hp3.1.2.2.2.2.2.2.1.trans k268_17), (hp3.1.2.2.2.2.2.2.2.1.trans k268_10), (hp3.1.2.2.2.2.2.2.2.2.1.trans k268_16), (hp3.1.2.2.2.2.2.2.2.2.2.1.trans k268_48), trivial⟩, by
    have e := H1.resolve_right (fun q => by omega)
    have z := hz.1.e1 hc (by rw [← hz.2.2.1]; exact e.2.1)
    rw [z, ← hz.2.2.1]
    exact Or.inl ⟨by omega, e.2.1, e.2.2⟩⟩ dX11_readsCompared_8
