set_option maxHeartbeats 4000000 in
set_option maxRecDepth 100000 in
theorem c_X11_hasOpenSum (l : Launch) (D : va_G) (g : xG) (T : Nat × Nat × Nat) (h0 : Nat) (s0 : xS) (hσ : xRR s0) (b : Int) (rb : xR b) (c0 : Int → Int) (a : Int) (M : Int) (w0 : Int → Int) (K : Int) (D0 : Int) (e0 : Int) (hls : zLS c0 a M w0 b K D0 e0 s0) (p0 : IMn s0) (p1 : IMk s0) (p2 : IMo s0) (p3 : IR s0) : Met l yX11_hasOpenSum (xws yX11_hasOpenSum cX11_hasOpenSum 3 (some .boolean)) { frames := 0, cells := 0, slots := 0, locals := 0 } (xP [.ref (h0 + 268), .int (xJ b)] D g T h0 s0) (xQi D g h0 (fun r τ => s0 = τ ∧ ((r = 1 ∧ zhO b s0) ∨ (r = 0 ∧ ¬ zhO b s0)))) 0 0 (xA h0) := by
  refine x_met hσ (by decide) (Nat.le_of_ble_eq_true rfl) ?_
  intro p e s m args below meth c hx hb hr hml hown hT hlk hnm hE hW ls hl
  have hl : lv_has ls 3 [(0, .ref (h0 + 268)), (1, .int (xJ b))] := hl
  obtain ⟨Q, eQ⟩ : ∃ Q, Q = MQ below (xQi D g h0 (fun r τ => s0 = τ ∧ ((r = 1 ∧ zhO b s0) ∨ (r = 0 ∧ ¬ zhO b s0)))) args s 0 0 (xA h0) := ⟨_, rfl⟩
  rw [← eQ]
  generalize hHe : ([] : List Loc) = locs at hW ⊢
  obtain ⟨H, eH⟩ : ∃ H, H = s.heap := ⟨_, rfl⟩
  rw [← eH] at hW ⊢
  have k268_8 : s0 268 8 = s0 268 8 := rfl
  have k268_58 : s0 268 58 = s0 268 58 := rfl
  have k268_15 : s0 268 15 = s0 268 15 := rfl
  have cw := hls.cw
  have wb := hls.wb
  refine x_iload_n hx hb hl 1 rfl dX11_hasOpenSum_0 rfl ?_
  refine lv_istore_n (lv' := [(2, .int (xJ b)), (0, .ref (h0 + 268)), (1, .int (xJ b))]) hx hb dX11_hasOpenSum_1 rfl hl (by decide) rfl (fun ls hl => ?_)
  have L2 : ∀ (fu : Nat) (i2_2 : Int) (ls : Array Slot), (xR i2_2) → (b ≤ i2_2) → (∀ i, b ≤ i → i < i2_2 → s0 278 i < 14680064) → (260 - i2_2).toNat < fu → lv_has ls 3 [(0, .ref (h0 + 268)), (2, .int (xJ i2_2))] → W p l e { frames := 0, cells := 0, slots := 0, locals := 0 } s m args below meth c H locs 0 0 Q (F0 m 2 ls []) := by
    intro fu
    induction fu with
    | zero => intro i2_2 ls ri2_2 v2_0 v2_1 hm; exact absurd hm (Nat.not_lt_zero _)
    | succ fu ih2 =>
      intro i2_2 ls ri2_2 v2_0 v2_1 hm  hl
      refine x_iload_n hx hb hl 1 rfl dX11_hasOpenSum_2 rfl ?_
      refine x_aload_n hx hb hl 0 rfl dX11_hasOpenSum_3 rfl ?_
      refine x_get (j := 15) (v := .int (xJ (s0 268 15))) hx hb hown hT hE hW cls_X11 (Or.inl (by decide)) (so_268 h0 g _) (by decide) rfl wq1200 dX11_hasOpenSum_4 ?_
      refine x_rd hW (fun x1 ex1 rx1 => ?_)
      have fx1 : x1 = s0 268 15 := ex1.trans k268_15
      refine x_icmp_ge (tgt := 32) hx hb ri2_2 rx1 dX11_hasOpenSum_7 (by decide) (fun c2 => ?_) (fun c2 => ?_)
      · skip
        refine x_iconst hx hb dX11_hasOpenSum_32 ?_
        rw [eQ]
        exact x_zret hx hb hr hlk hW (by omega) ⟨rfl, by first | exact Or.inr ⟨by omega, fun ⟨i, i1, i2, i3⟩ => by have := v2_1 i i1 (by omega); omega⟩ | exact Or.inl ⟨by omega, ⟨i2_2, by omega, by omega, by omega⟩⟩⟩ dX11_hasOpenSum_33
      refine x_aload_n hx hb hl 0 rfl dX11_hasOpenSum_10 rfl ?_
      refine x_get (j := 19) (v := .ref (h0 + 278)) hx hb hown hT hE hW cls_X11 (Or.inl (by decide)) (so_268 h0 g _) (by decide) rfl wq1204 dX11_hasOpenSum_11 ?_
      refine x_iload_n hx hb hl 1 rfl dX11_hasOpenSum_14 rfl ?_
      refine x_iald hx hb hE hW (Or.inl (by decide)) (sa_278 h0 g _) (by omega) (by decide) dX11_hasOpenSum_15 ?_
      refine x_rd hW (fun x3 ex3 rx3 => ?_)
      have gx3 := hls.hi i2_2 (by omega) (by omega)
      rw [← ex3] at gx3
      refine lv_ldc (v := xJ 1048576) hx hb hown (hT _ wq1482) dX11_hasOpenSum_16 ?_
      refine x_idiv hx hb rx3 (by decide) (by omega) (by decide) dX11_hasOpenSum_18 ?_
      refine x_bipush hx hb dX11_hasOpenSum_19 (by decide) ?_
      refine x_icmp_ne (tgt := 26) hx hb (by omega) (by decide) dX11_hasOpenSum_21 (by decide) (fun c4 => ?_) (fun c4 => ?_)
      · skip
        refine x_iinc (lv' := [(2, .int (xJ (i2_2 + 1))), (0, .ref (h0 + 268))]) hx hb hl 1 rfl dX11_hasOpenSum_26 (by decide) rfl (fun ls hl => ?_)
        refine lv_goto (tgt := 2) hx hb dX11_hasOpenSum_29 (by decide) ?_
        exact ih2 (i2_2 + 1) ls (by omega) (by omega) (fun i i1 i2 => (Classical.em (i < (i2_2 + 1) - 1)).elim (fun q => v2_1 i i1 (by omega)) (fun q => by rw [show i = i2_2 from by omega]; omega)) (by omega)  (lv_sub hl [1, 0] rfl)
      refine x_iconst hx hb dX11_hasOpenSum_24 ?_
      rw [eQ]
      exact x_zret hx hb hr hlk hW (by omega) ⟨rfl, by first | exact Or.inr ⟨by omega, fun ⟨i, i1, i2, i3⟩ => by have := v2_1 i i1 (by omega); omega⟩ | exact Or.inl ⟨by omega, ⟨i2_2, by omega, by omega, by omega⟩⟩⟩ dX11_hasOpenSum_25
  exact L2 ((260 - b : Int).toNat + 1) b ls rb (by omega) (fun i i1 i2 => by omega) (Nat.lt_succ_self _)  (lv_sub hl [1, 0] rfl)
set_option maxHeartbeats 4000000 in
set_option maxRecDepth 100000 in
theorem c_X11_closesSums (l : Launch) (D : va_G) (g : xG) (T : Nat × Nat × Nat) (h0 : Nat) (s0 : xS) (hσ : xRR s0) (q : Int) (rq : xR q) (c0 : Int → Int) (a : Int) (M : Int) (w0 : Int → Int) (b : Int) (K : Int) (D0 : Int) (hls : zLS c0 a M w0 b K D0 1 s0) (hq : q = 0 ∨ q = 1) (p0 : IMn s0) (p1 : IMk s0) (p2 : IMo s0) (p3 : IR s0) : Met l yX11_closesSums (xws yX11_closesSums cX11_closesSums 2 none) { frames := 1, cells := 0, slots := 0, locals := 22 } (xP [.ref (h0 + 268), .int (xJ q)] D g T h0 s0) (xQv D g h0 (fun τ => xFr (fun k => k = 268 ∨ k = 277) s0 τ ∧ (((IMn τ) ∧ (IMk τ) ∧ (IMo τ) ∧ (IR τ) ∧ (τ 268 8 = s0 268 8) ∧ (τ 268 58 = s0 268 58) ∧ (τ 268 9 = s0 268 9) ∧ (τ 268 10 = s0 268 10) ∧ (τ 268 16 = s0 268 16) ∧ (τ 268 34 = s0 268 34) ∧ (τ 268 35 = s0 268 35) ∧ (τ 268 36 = s0 268 36) ∧ (τ 268 37 = s0 268 37) ∧ True) ∧ (zLS c0 a M w0 b K D0 1 τ ∧ (zhO b τ ↔ zhO b s0) ∧ (q = 0 ∨ ztW τ < 2 ∨ 6 < ztW τ))))) 0 0 (xA h0) := by
  refine x_met hσ (by decide) (Nat.le_of_ble_eq_true rfl) ?_
  intro p e s m args below meth c hx hb hr hml hown hT hlk hnm hE hW ls hl
  have hl : lv_has ls 2 [(0, .ref (h0 + 268)), (1, .int (xJ q))] := hl
  obtain ⟨Q, eQ⟩ : ∃ Q, Q = MQ below (xQv D g h0 (fun τ => xFr (fun k => k = 268 ∨ k = 277) s0 τ ∧ (((IMn τ) ∧ (IMk τ) ∧ (IMo τ) ∧ (IR τ) ∧ (τ 268 8 = s0 268 8) ∧ (τ 268 58 = s0 268 58) ∧ (τ 268 9 = s0 268 9) ∧ (τ 268 10 = s0 268 10) ∧ (τ 268 16 = s0 268 16) ∧ (τ 268 34 = s0 268 34) ∧ (τ 268 35 = s0 268 35) ∧ (τ 268 36 = s0 268 36) ∧ (τ 268 37 = s0 268 37) ∧ True) ∧ (zLS c0 a M w0 b K D0 1 τ ∧ (zhO b τ ↔ zhO b s0) ∧ (q = 0 ∨ ztW τ < 2 ∨ 6 < ztW τ))))) args s 0 0 (xA h0) := ⟨_, rfl⟩
  rw [← eQ]
  generalize hHe : ([] : List Loc) = locs at hW ⊢
  obtain ⟨H, eH⟩ : ∃ H, H = s.heap := ⟨_, rfl⟩
  rw [← eH] at hW ⊢
  have hF : xFr (fun k => k = 268 ∨ k = 277) s0 s0 := xFr.rf
  have k268_8 : s0 268 8 = s0 268 8 := rfl
  have k268_58 : s0 268 58 = s0 268 58 := rfl
  have k268_9 : s0 268 9 = s0 268 9 := rfl
  have k268_10 : s0 268 10 = s0 268 10 := rfl
  have k268_16 : s0 268 16 = s0 268 16 := rfl
  have k268_34 : s0 268 34 = s0 268 34 := rfl
  have k268_35 : s0 268 35 = s0 268 35 := rfl
  have k268_36 : s0 268 36 = s0 268 36 := rfl
  have k268_37 : s0 268 37 = s0 268 37 := rfl
  have k268_14 : s0 268 14 = s0 268 14 := rfl
  have k268_15 : s0 268 15 = s0 268 15 := rfl
  have L0 : ∀ (fu : Nat) (s_0 : xS) (H : Heap) (locs : List Loc) (ls : Array Slot), (xFr (fun k => k = 268 ∨ k = 277) s0 s_0) → (IMn s_0) → (IMk s_0) → (IMo s_0) → (IR s_0) → (s_0 268 8 = s0 268 8) → (s_0 268 58 = s0 268 58) → (s_0 268 9 = s0 268 9) → (s_0 268 10 = s0 268 10) → (s_0 268 16 = s0 268 16) → (s_0 268 34 = s0 268 34) → (s_0 268 35 = s0 268 35) → (s_0 268 36 = s0 268 36) → (s_0 268 37 = s0 268 37) → (zLS c0 a M w0 b K D0 1 s_0) → (zhO b s_0 ↔ zhO b s0) → (s_0 268 15).toNat < fu → xW D g h0 s H locs s_0 → lv_has ls 2 [(0, .ref (h0 + 268)), (1, .int (xJ q))] → W p l e { frames := 1, cells := 0, slots := 0, locals := 22 } s m args below meth c H locs 0 0 Q (F0 m 0 ls []) := by
    intro fu
    induction fu with
    | zero => intro s_0 H locs ls hF_0 q0_0 q0_1 q0_2 q0_3 q0_4 q0_5 q0_6 q0_7 q0_8 q0_9 q0_10 q0_11 q0_12 v0_0 v0_1 hm; exact absurd hm (Nat.not_lt_zero _)
    | succ fu ih0 =>
      intro s_0 H locs ls hF_0 q0_0 q0_1 q0_2 q0_3 q0_4 q0_5 q0_6 q0_7 q0_8 q0_9 q0_10 q0_11 q0_12 v0_0 v0_1 hm hW hl
      have wt := v0_0.wt
      have cw := v0_0.cw
      refine x_aload_n hx hb hl 0 rfl dX11_closesSums_0 rfl ?_
      refine x_goi (x_runV (As := []) hx hb hml hown hT hE hW hl.1 (Or.inl (by decide)) (so_268 h0 g _) rfl cf_X11_waitTop wq1507 wq123 wq1505 (c_X11_waitTop l D g T h0 s_0 hW.2.1 (wt) q0_0 q0_1 q0_2 q0_3) ⟨rfl, rfl, ⟨by decide, by decide⟩, ⟨by decide, by decide⟩⟩ rfl rfl (Nat.le_of_ble_eq_true rfl) dX11_closesSums_1) hW (fun x1 s2 H locs rx1 hp3 hW => ?_)
      obtain ⟨es2, hp3⟩ := hp3
      subst es2
      have ghp3 := hp3
      have q4 : s_0 268 15 = s_0 268 15 := rfl
      refine x_iconst hx hb dX11_closesSums_4 ?_
      have J37 : ∀ (H : Heap) (locs : List Loc) (ls : Array Slot), (2 ≤ ztW s_0 ∧ ztW s_0 ≤ 6) → xW D g h0 s H locs s_0 → lv_has ls 2 [(0, .ref (h0 + 268)), (1, .int (xJ q))] → W p l e { frames := 1, cells := 0, slots := 0, locals := 22 } s m args below meth c H locs 0 0 Q (F0 m 37 ls []) := by
        intro H locs ls v37_0 hW hl
        refine x_aload_n hx hb hl 0 rfl dX11_closesSums_37 rfl ?_
        refine x_aload_n hx hb hl 0 rfl dX11_closesSums_38 rfl ?_
        refine x_goi (x_runV (As := []) hx hb hml hown hT hE hW hl.1 (Or.inl (by decide)) (so_268 h0 g _) rfl cf_X11_waitTop wq1507 wq123 wq1505 (c_X11_waitTop l D g T h0 s_0 hW.2.1 (wt) q0_0 q0_1 q0_2 q0_3) ⟨rfl, rfl, ⟨by decide, by decide⟩, ⟨by decide, by decide⟩⟩ rfl rfl (Nat.le_of_ble_eq_true rfl) dX11_closesSums_39) hW (fun x5 s6 H locs rx5 hp7 hW => ?_)
        obtain ⟨es6, hp7⟩ := hp7
        subst es6
        have ghp7 := hp7
        have tb := (v0_0.tb (by omega)).1
        have wb := v0_0.wb
        refine x_iconst hx hb dX11_closesSums_42 ?_
        refine x_gov (x_runV (As := [.int (xJ x5), .int (xJ 0)]) hx hb hml hown hT hE hW hl.1 (Or.inl (by decide)) (so_268 h0 g _) rfl cf_X11_notes wq1493 wq121 wq1491 (c_X11_notes l D g T h0 s_0 hW.2.1 x5 rx5 0 (by decide) (by omega) (by omega) (by omega) q0_0 q0_1 q0_2 q0_3) ⟨rfl, rfl, ⟨by decide, by decide⟩, ⟨by decide, by decide⟩⟩ rfl rfl (Nat.le_of_ble_eq_true rfl) dX11_closesSums_43) hW (fun s9 H locs hp10 hW => ?_)
        obtain ⟨fs9, hp10⟩ := hp10
        have hF11 := hF_0.call fs9 (fun k h => by omega)
        have ghp10 := hp10.2
        have q12 : s9 268 14 = s_0 268 14 + 1 := ghp10
        have B43 : s9 278 = s_0 278 := fs9 278 (by omega)
        refine x_aload_n hx hb hl 0 rfl dX11_closesSums_46 rfl ?_
        refine x_aload_n hx hb hl 0 rfl dX11_closesSums_47 rfl ?_
        refine x_get (j := 15) (v := .int (xJ (s9 268 15))) hx hb hown hT hE hW cls_X11 (Or.inl (by decide)) (so_268 h0 g _) (by decide) rfl wq1200 dX11_closesSums_48 ?_
        refine x_rd hW (fun x13 ex13 rx13 => ?_)
        have fx13 : x13 = s_0 268 15 := ex13.trans (hp10.1.2.2.2.2.2.2.2.2.2.1.trans q4)
        refine x_iconst hx hb dX11_closesSums_51 ?_
        refine x_isub hx hb dX11_closesSums_52 ?_
        refine x_put (j := 15) hx hb hown hT hE hW cls_X11 (by decide) (fun σ => so_268 h0 g σ) (by decide) (st_X11_15 h0 s9 268 (x13 - 1)) (ln_X11_15 h0 _ _) wq1200 rfl rfl rfl (by omega) dX11_closesSums_53 (fun H locs s14 es14 hW => ?_)
        have q15 : IMn s14 := by rw [es14]; exact IMn_268 hp10.1.1 (by omega)
        have q16 : IMk s14 := by rw [es14]; exact IMk_268 hp10.1.2.1 (by omega)
        have q17 : IMo s14 := by rw [es14]; exact IMo_o (by unfold suIMo; omega) hp10.1.2.2.1
        have q18 : IR s14 := by rw [es14]; exact IR_268 hp10.1.2.2.2.1 (by omega)
        have q19 : s14 277 = xud (s_0 277) (s_0 268 14) (1048576 * x5 + 0) := (show s14 277 = s9 277 from by rw [es14, xU_k _ _ _ (by omega)]).trans hp10.1.2.2.2.2.1
        have q20 : s14 268 8 = s0 268 8 := (show s14 268 8 = s9 268 8 from by rw [es14, xU_j _ _ (by decide)]).trans (hp10.1.2.2.2.2.2.1.trans q0_4)
        have q21 : s14 268 58 = s0 268 58 := (show s14 268 58 = s9 268 58 from by rw [es14, xU_j _ _ (by decide)]).trans (hp10.1.2.2.2.2.2.2.1.trans q0_5)
        have q22 : s14 268 9 = s0 268 9 := (show s14 268 9 = s9 268 9 from by rw [es14, xU_j _ _ (by decide)]).trans (hp10.1.2.2.2.2.2.2.2.1.trans q0_6)
        have q23 : s14 268 10 = s0 268 10 := (show s14 268 10 = s9 268 10 from by rw [es14, xU_j _ _ (by decide)]).trans (hp10.1.2.2.2.2.2.2.2.2.1.trans q0_7)
        have q24 : s14 268 15 = (x13 - 1) := by rw [es14, xU_s]
        have q25 : s14 268 16 = s0 268 16 := (show s14 268 16 = s9 268 16 from by rw [es14, xU_j _ _ (by decide)]).trans (hp10.1.2.2.2.2.2.2.2.2.2.2.1.trans q0_8)
        have q26 : s14 268 34 = s0 268 34 := (show s14 268 34 = s9 268 34 from by rw [es14, xU_j _ _ (by decide)]).trans (hp10.1.2.2.2.2.2.2.2.2.2.2.2.1.trans q0_9)
        have q27 : s14 268 35 = s0 268 35 := (show s14 268 35 = s9 268 35 from by rw [es14, xU_j _ _ (by decide)]).trans (hp10.1.2.2.2.2.2.2.2.2.2.2.2.2.1.trans q0_10)
        have q28 : s14 268 36 = s0 268 36 := (show s14 268 36 = s9 268 36 from by rw [es14, xU_j _ _ (by decide)]).trans (hp10.1.2.2.2.2.2.2.2.2.2.2.2.2.2.1.trans q0_11)
        have q29 : s14 268 37 = s0 268 37 := (show s14 268 37 = s9 268 37 from by rw [es14, xU_j _ _ (by decide)]).trans (hp10.1.2.2.2.2.2.2.2.2.2.2.2.2.2.2.1.trans q0_12)
        have q30 : s14 268 14 = s_0 268 14 + 1 := (show s14 268 14 = s9 268 14 from by rw [es14, xU_j _ _ (by decide)]).trans q12
        have hF31 := hF11.put es14 (by omega)
        have B53 : s14 278 = s_0 278 := by rw [es14, xU_k _ _ _ (by omega), B43]
        refine lv_goto (tgt := 0) hx hb dX11_closesSums_56 (by decide) ?_
        exact ih0 s14 H locs ls hF31 q15 q16 q17 q18 q20 q21 q22 q23 q25 q26 q27 q28 q29 (v0_0.close (v0_0.tb (by omega)).1 (by omega) (by omega) (by omega) (by omega) (by omega) (by omega) q19 B53 (by omega)) ((zhO_pop (v0_0.tb (by omega)).1 (v0_0.tb (by omega)).2 (by omega) B53).trans v0_1) (by omega) hW (lv_sub hl [0, 1] rfl)
      have J17 : ∀ (H : Heap) (locs : List Loc) (ls : Array Slot), (ztW s_0 < 4 ∨ 6 < ztW s_0) → xW D g h0 s H locs s_0 → lv_has ls 2 [(0, .ref (h0 + 268)), (1, .int (xJ q))] → W p l e { frames := 1, cells := 0, slots := 0, locals := 22 } s m args below meth c H locs 0 0 Q (F0 m 17 ls []) := by
        intro H locs ls v17_0 hW hl
        refine x_iload_n hx hb hl 1 rfl dX11_closesSums_17 rfl ?_
        refine x_if_eq (tgt := 59) hx hb rq dX11_closesSums_18 (by decide) (fun c32 => ?_) (fun c32 => ?_)
        · skip
          rw [eQ]
          exact x_vret hx hb hr hlk hW ⟨hF_0, ⟨q0_0, q0_1, q0_2, q0_3, q0_4, q0_5, q0_6, q0_7, q0_8, q0_9, q0_10, q0_11, q0_12, trivial⟩, ⟨v0_0, v0_1, by omega⟩⟩ dX11_closesSums_59
        refine x_aload_n hx hb hl 0 rfl dX11_closesSums_21 rfl ?_
        refine x_goi (x_runV (As := []) hx hb hml hown hT hE hW hl.1 (Or.inl (by decide)) (so_268 h0 g _) rfl cf_X11_waitTop wq1507 wq123 wq1505 (c_X11_waitTop l D g T h0 s_0 hW.2.1 (wt) q0_0 q0_1 q0_2 q0_3) ⟨rfl, rfl, ⟨by decide, by decide⟩, ⟨by decide, by decide⟩⟩ rfl rfl (Nat.le_of_ble_eq_true rfl) dX11_closesSums_22) hW (fun x33 s34 H locs rx33 hp35 hW => ?_)
        obtain ⟨es34, hp35⟩ := hp35
        subst es34
        have ghp35 := hp35
        refine x_iconst hx hb dX11_closesSums_25 ?_
        refine x_icmp_eq (tgt := 37) hx hb rx33 (by decide) dX11_closesSums_26 (by decide) (fun c36 => ?_) (fun c36 => ?_)
        · skip
          exact J37 H locs ls (by omega) hW (lv_sub hl [0, 1] rfl)
        refine x_aload_n hx hb hl 0 rfl dX11_closesSums_29 rfl ?_
        refine x_goi (x_runV (As := []) hx hb hml hown hT hE hW hl.1 (Or.inl (by decide)) (so_268 h0 g _) rfl cf_X11_waitTop wq1507 wq123 wq1505 (c_X11_waitTop l D g T h0 s_0 hW.2.1 (wt) q0_0 q0_1 q0_2 q0_3) ⟨rfl, rfl, ⟨by decide, by decide⟩, ⟨by decide, by decide⟩⟩ rfl rfl (Nat.le_of_ble_eq_true rfl) dX11_closesSums_30) hW (fun x37 s38 H locs rx37 hp39 hW => ?_)
        obtain ⟨es38, hp39⟩ := hp39
        subst es38
        have ghp39 := hp39
        refine x_iconst hx hb dX11_closesSums_33 ?_
        refine x_icmp_ne (tgt := 59) hx hb rx37 (by decide) dX11_closesSums_34 (by decide) (fun c40 => ?_) (fun c40 => ?_)
        · skip
          rw [eQ]
          exact x_vret hx hb hr hlk hW ⟨hF_0, ⟨q0_0, q0_1, q0_2, q0_3, q0_4, q0_5, q0_6, q0_7, q0_8, q0_9, q0_10, q0_11, q0_12, trivial⟩, ⟨v0_0, v0_1, by omega⟩⟩ dX11_closesSums_59
        exact J37 H locs ls (by omega) hW (lv_sub hl [0, 1] rfl)
      refine x_icmp_lt (tgt := 17) hx hb rx1 (by decide) dX11_closesSums_5 (by decide) (fun c41 => ?_) (fun c41 => ?_)
      · skip
        exact J17 H locs ls (by omega) hW (lv_sub hl [0, 1] rfl)
      refine x_aload_n hx hb hl 0 rfl dX11_closesSums_8 rfl ?_
      refine x_goi (x_runV (As := []) hx hb hml hown hT hE hW hl.1 (Or.inl (by decide)) (so_268 h0 g _) rfl cf_X11_waitTop wq1507 wq123 wq1505 (c_X11_waitTop l D g T h0 s_0 hW.2.1 (wt) q0_0 q0_1 q0_2 q0_3) ⟨rfl, rfl, ⟨by decide, by decide⟩, ⟨by decide, by decide⟩⟩ rfl rfl (Nat.le_of_ble_eq_true rfl) dX11_closesSums_9) hW (fun x42 s43 H locs rx42 hp44 hW => ?_)
      obtain ⟨es43, hp44⟩ := hp44
      subst es43
      have ghp44 := hp44
      refine x_bipush hx hb dX11_closesSums_12 (by decide) ?_
      refine x_icmp_le (tgt := 37) hx hb rx42 (by decide) dX11_closesSums_14 (by decide) (fun c45 => ?_) (fun c45 => ?_)
      · skip
        exact J37 H locs ls (by omega) hW (lv_sub hl [0, 1] rfl)
      exact J17 H locs ls (by omega) hW (lv_sub hl [0, 1] rfl)
  exact L0 ((s0 268 15 : Int).toNat + 1) s0 H locs ls hF p0 p1 p2 p3 k268_8 k268_58 k268_9 k268_10 k268_16 k268_34 k268_35 k268_36 k268_37 (hls) (Iff.rfl) (Nat.lt_succ_self _) hW (lv_sub hl [0, 1] rfl)
set_option maxHeartbeats 4000000 in
set_option maxRecDepth 100000 in
theorem c_X11_readsFactor (l : Launch) (D : va_G) (g : xG) (T : Nat × Nat × Nat) (h0 : Nat) (s0 : xS) (hσ : xRR s0) (c0 : Int → Int) (a : Int) (M : Int) (w0 : Int → Int) (b : Int) (K : Int) (D0 : Int) (hls : zLS c0 a M w0 b K D0 0 s0) (p0 : IMn s0) (p1 : IMk s0) (p2 : IMo s0) (p3 : IR s0) : Met l yX11_readsFactor (xws yX11_readsFactor cX11_readsFactor 2 (some .boolean)) { frames := 3, cells := 0, slots := 0, locals := 61 } (xP [.ref (h0 + 268)] D g T h0 s0) (xQi D g h0 (fun r τ => xFr (fun k => k = 268 ∨ k = 277 ∨ k = 278) s0 τ ∧ (((IMn τ) ∧ (IMk τ) ∧ (IMo τ) ∧ (IR τ) ∧ (τ 268 8 = s0 268 8) ∧ (τ 268 58 = s0 268 58) ∧ (τ 268 10 = s0 268 10) ∧ (τ 268 16 = s0 268 16) ∧ (τ 268 34 = s0 268 34) ∧ (τ 268 35 = s0 268 35) ∧ (τ 268 36 = s0 268 36) ∧ (τ 268 37 = s0 268 37) ∧ True) ∧ ((r = 0 ∧ s0 268 9 ≤ τ 268 9) ∨ (r = 1 ∧ s0 268 9 + 1 ≤ τ 268 9 ∧ zLS c0 a M w0 b K D0 1 τ))))) 0 0 (xA h0) := by
  refine x_met hσ (by decide) (Nat.le_of_ble_eq_true rfl) ?_
  intro p e s m args below meth c hx hb hr hml hown hT hlk hnm hE hW ls hl
  have hl : lv_has ls 2 [(0, .ref (h0 + 268))] := hl
  obtain ⟨Q, eQ⟩ : ∃ Q, Q = MQ below (xQi D g h0 (fun r τ => xFr (fun k => k = 268 ∨ k = 277 ∨ k = 278) s0 τ ∧ (((IMn τ) ∧ (IMk τ) ∧ (IMo τ) ∧ (IR τ) ∧ (τ 268 8 = s0 268 8) ∧ (τ 268 58 = s0 268 58) ∧ (τ 268 10 = s0 268 10) ∧ (τ 268 16 = s0 268 16) ∧ (τ 268 34 = s0 268 34) ∧ (τ 268 35 = s0 268 35) ∧ (τ 268 36 = s0 268 36) ∧ (τ 268 37 = s0 268 37) ∧ True) ∧ ((r = 0 ∧ s0 268 9 ≤ τ 268 9) ∨ (r = 1 ∧ s0 268 9 + 1 ≤ τ 268 9 ∧ zLS c0 a M w0 b K D0 1 τ))))) args s 0 0 (xA h0) := ⟨_, rfl⟩
  rw [← eQ]
  generalize hHe : ([] : List Loc) = locs at hW ⊢
  obtain ⟨H, eH⟩ : ∃ H, H = s.heap := ⟨_, rfl⟩
  rw [← eH] at hW ⊢
  have hF : xFr (fun k => k = 268 ∨ k = 277 ∨ k = 278) s0 s0 := xFr.rf
  have k268_8 : s0 268 8 = s0 268 8 := rfl
  have k268_58 : s0 268 58 = s0 268 58 := rfl
  have k268_10 : s0 268 10 = s0 268 10 := rfl
  have k268_16 : s0 268 16 = s0 268 16 := rfl
  have k268_34 : s0 268 34 = s0 268 34 := rfl
  have k268_35 : s0 268 35 = s0 268 35 := rfl
  have k268_36 : s0 268 36 = s0 268 36 := rfl
  have k268_37 : s0 268 37 = s0 268 37 := rfl
  have k268_9 : s0 268 9 = s0 268 9 := rfl
  have k268_14 : s0 268 14 = s0 268 14 := rfl
  have k268_15 : s0 268 15 = s0 268 15 := rfl
  have L0 : ∀ (fu : Nat) (s_0 : xS) (H : Heap) (locs : List Loc) (ls : Array Slot), (xFr (fun k => k = 268 ∨ k = 277 ∨ k = 278) s0 s_0) → (IMn s_0) → (IMk s_0) → (IMo s_0) → (IR s_0) → (s_0 268 8 = s0 268 8) → (s_0 268 58 = s0 268 58) → (s_0 268 10 = s0 268 10) → (s_0 268 16 = s0 268 16) → (s_0 268 34 = s0 268 34) → (s_0 268 35 = s0 268 35) → (s_0 268 36 = s0 268 36) → (s_0 268 37 = s0 268 37) → (zLS c0 a M w0 b K D0 0 s_0) → (s0 268 9 ≤ s_0 268 9) → (241 - s_0 268 9).toNat < fu → xW D g h0 s H locs s_0 → lv_has ls 2 [(0, .ref (h0 + 268))] → W p l e { frames := 3, cells := 0, slots := 0, locals := 61 } s m args below meth c H locs 0 0 Q (F0 m 0 ls []) := by
    intro fu
    induction fu with
    | zero => intro s_0 H locs ls hF_0 q0_0 q0_1 q0_2 q0_3 q0_4 q0_5 q0_6 q0_7 q0_8 q0_9 q0_10 q0_11 v0_0 v0_1 hm; exact absurd hm (Nat.not_lt_zero _)
    | succ fu ih0 =>
      intro s_0 H locs ls hF_0 q0_0 q0_1 q0_2 q0_3 q0_4 q0_5 q0_6 q0_7 q0_8 q0_9 q0_10 q0_11 v0_0 v0_1 hm hW hl
      have cw := v0_0.cw
      have pb := v0_0.p
      refine x_aload_n hx hb hl 0 rfl dX11_readsFactor_0 rfl ?_
      refine x_goi (x_runV (As := []) hx hb hml hown hT hE hW hl.1 (Or.inl (by decide)) (so_268 h0 g _) rfl cf_X11_here wq1391 wq106 wq1389 (c_X11_here l D g T h0 s_0 hW.2.1 q0_0 q0_1 q0_2 q0_3) ⟨rfl, rfl, ⟨by decide, by decide⟩, ⟨by decide, by decide⟩⟩ rfl rfl (Nat.le_of_ble_eq_true rfl) dX11_readsFactor_1) hW (fun x1 s2 H locs rx1 hp3 hW => ?_)
      obtain ⟨es2, hp3⟩ := hp3
      subst es2
      have ghp3 := hp3
      have q4 : s_0 268 9 = s_0 268 9 := rfl
      have q5 : s_0 268 14 = s_0 268 14 := rfl
      have q6 : s_0 268 15 = s_0 268 15 := rfl
      refine x_bipush hx hb dX11_readsFactor_4 (by decide) ?_
      refine x_icmp_ne (tgt := 20) hx hb rx1 (by decide) dX11_readsFactor_6 (by decide) (fun c7 => ?_) (fun c7 => ?_)
      · skip
        refine x_aload_n hx hb hl 0 rfl dX11_readsFactor_20 rfl ?_
        refine x_goi (x_runV (As := []) hx hb hml hown hT hE hW hl.1 (Or.inl (by decide)) (so_268 h0 g _) rfl cf_X11_isDigit wq1485 wq119 wq1483 (c_X11_isDigit l D g T h0 s_0 hW.2.1 q0_0 q0_1 q0_2 q0_3) ⟨rfl, rfl, ⟨by decide, by decide⟩, ⟨by decide, by decide⟩⟩ rfl rfl (Nat.le_of_ble_eq_true rfl) dX11_readsFactor_21) hW (fun x8 s9 H locs rx8 hp10 hW => ?_)
        obtain ⟨es9, hp10⟩ := hp10
        subst es9
        have ghp10 := hp10
        refine x_if_eq (tgt := 47) hx hb rx8 dX11_readsFactor_24 (by decide) (fun c11 => ?_) (fun c11 => ?_)
        · skip
          refine x_aload_n hx hb hl 0 rfl dX11_readsFactor_47 rfl ?_
          refine x_goi (x_runV (As := []) hx hb hml hown hT hE hW hl.1 (Or.inl (by decide)) (so_268 h0 g _) rfl cf_X11_here wq1391 wq106 wq1389 (c_X11_here l D g T h0 s_0 hW.2.1 q0_0 q0_1 q0_2 q0_3) ⟨rfl, rfl, ⟨by decide, by decide⟩, ⟨by decide, by decide⟩⟩ rfl rfl (Nat.le_of_ble_eq_true rfl) dX11_readsFactor_48) hW (fun x12 s13 H locs rx12 hp14 hW => ?_)
          obtain ⟨es13, hp14⟩ := hp14
          subst es13
          have ghp14 := hp14
          refine x_goi (x_runS (As := [.int (xJ x12)]) hx hb hml hown hT hE hW hl.1 cf_X11_factOf wq1496 wq1495 (c_X11_factOf l D g T h0 s_0 hW.2.1 x12 rx12) ⟨rfl, rfl, ⟨by decide, by decide⟩, ⟨by decide, by decide⟩⟩ rfl rfl (Nat.le_of_ble_eq_true rfl) dX11_readsFactor_51) hW (fun x15 s16 H locs rx15 hp17 hW => ?_)
          obtain ⟨es16, hp17⟩ := hp17
          subst es16
          have ghp17 := hp17
          refine lv_istore_n (lv' := [(1, .int (xJ x15)), (0, .ref (h0 + 268))]) hx hb dX11_readsFactor_54 rfl hl (by decide) rfl (fun ls hl => ?_)
          refine x_iload_n hx hb hl 0 rfl dX11_readsFactor_55 rfl ?_
          refine x_iconst hx hb dX11_readsFactor_56 ?_
          refine x_icmp_ne (tgt := 70) hx hb rx15 (by decide) dX11_readsFactor_57 (by decide) (fun c18 => ?_) (fun c18 => ?_)
          · skip
            refine x_aload_n hx hb hl 1 rfl dX11_readsFactor_70 rfl ?_
            refine x_iconst hx hb dX11_readsFactor_71 ?_
            refine x_iload_n hx hb hl 0 rfl dX11_readsFactor_72 rfl ?_
            refine x_gov (x_runV (As := [.int (xJ 1), .int (xJ x15)]) hx hb hml hown hT hE hW hl.1 (Or.inl (by decide)) (so_268 h0 g _) rfl cf_X11_notes wq1493 wq121 wq1491 (c_X11_notes l D g T h0 s_0 hW.2.1 1 (by decide) x15 rx15 (by omega) (by omega) (by omega) q0_0 q0_1 q0_2 q0_3) ⟨rfl, rfl, ⟨by decide, by decide⟩, ⟨by decide, by decide⟩⟩ rfl rfl (Nat.le_of_ble_eq_true rfl) dX11_readsFactor_73) hW (fun s20 H locs hp21 hW => ?_)
            obtain ⟨fs20, hp21⟩ := hp21
            have hF22 := hF_0.call fs20 (fun k h => by omega)
            have ghp21 := hp21.2
            have q23 : s20 268 14 = s_0 268 14 + 1 := ghp21
            have V73 : s20 278 = s_0 278 := fs20 278 (by omega)
            refine x_aload_n hx hb hl 1 rfl dX11_readsFactor_76 rfl ?_
            refine x_aload_n hx hb hl 1 rfl dX11_readsFactor_77 rfl ?_
            refine x_get (j := 9) (v := .int (xJ (s20 268 9))) hx hb hown hT hE hW cls_X11 (Or.inl (by decide)) (so_268 h0 g _) (by decide) rfl wq1194 dX11_readsFactor_78 ?_
            refine x_rd hW (fun x24 ex24 rx24 => ?_)
            have bx24 : 0 ≤ x24 ∧ x24 ≤ s20 268 10 ∧ s20 268 10 ≤ 240 := by rw [ex24]; exact hp21.1.2.2.2.1
            have fx24 : x24 = s_0 268 9 := ex24.trans (hp21.1.2.2.2.2.2.2.2.1.trans q4)
            refine x_iconst hx hb dX11_readsFactor_81 ?_
            refine x_iadd hx hb dX11_readsFactor_82 ?_
            refine x_put (j := 9) hx hb hown hT hE hW cls_X11 (by decide) (fun σ => so_268 h0 g σ) (by decide) (st_X11_9 h0 s20 268 (x24 + 1)) (ln_X11_9 h0 _ _) wq1194 rfl rfl rfl (by omega) dX11_readsFactor_83 (fun H locs s25 es25 hW => ?_)
            have q26 : IMn s25 := by rw [es25]; exact IMn_268 hp21.1.1 (by omega)
            have q27 : IMk s25 := by rw [es25]; exact IMk_268 hp21.1.2.1 (by omega)
            have q28 : IMo s25 := by rw [es25]; exact IMo_o (by unfold suIMo; omega) hp21.1.2.2.1
            have q29 : IR s25 := by rw [es25]; exact IR_268 hp21.1.2.2.2.1 (by omega)
            have q30 : s25 277 = xud (s_0 277) (s_0 268 14) (1048576 * 1 + x15) := (show s25 277 = s20 277 from by rw [es25, xU_k _ _ _ (by omega)]).trans hp21.1.2.2.2.2.1
            have q31 : s25 268 8 = s0 268 8 := (show s25 268 8 = s20 268 8 from by rw [es25, xU_j _ _ (by decide)]).trans (hp21.1.2.2.2.2.2.1.trans q0_4)
            have q32 : s25 268 58 = s0 268 58 := (show s25 268 58 = s20 268 58 from by rw [es25, xU_j _ _ (by decide)]).trans (hp21.1.2.2.2.2.2.2.1.trans q0_5)
            have q33 : s25 268 9 = (x24 + 1) := by rw [es25, xU_s]
            have q34 : s25 268 10 = s0 268 10 := (show s25 268 10 = s20 268 10 from by rw [es25, xU_j _ _ (by decide)]).trans (hp21.1.2.2.2.2.2.2.2.2.1.trans q0_6)
            have q35 : s25 268 15 = s_0 268 15 := (show s25 268 15 = s20 268 15 from by rw [es25, xU_j _ _ (by decide)]).trans (hp21.1.2.2.2.2.2.2.2.2.2.1.trans q6)
            have q36 : s25 268 16 = s0 268 16 := (show s25 268 16 = s20 268 16 from by rw [es25, xU_j _ _ (by decide)]).trans (hp21.1.2.2.2.2.2.2.2.2.2.2.1.trans q0_7)
            have q37 : s25 268 34 = s0 268 34 := (show s25 268 34 = s20 268 34 from by rw [es25, xU_j _ _ (by decide)]).trans (hp21.1.2.2.2.2.2.2.2.2.2.2.2.1.trans q0_8)
            have q38 : s25 268 35 = s0 268 35 := (show s25 268 35 = s20 268 35 from by rw [es25, xU_j _ _ (by decide)]).trans (hp21.1.2.2.2.2.2.2.2.2.2.2.2.2.1.trans q0_9)
            have q39 : s25 268 36 = s0 268 36 := (show s25 268 36 = s20 268 36 from by rw [es25, xU_j _ _ (by decide)]).trans (hp21.1.2.2.2.2.2.2.2.2.2.2.2.2.2.1.trans q0_10)
            have q40 : s25 268 37 = s0 268 37 := (show s25 268 37 = s20 268 37 from by rw [es25, xU_j _ _ (by decide)]).trans (hp21.1.2.2.2.2.2.2.2.2.2.2.2.2.2.2.1.trans q0_11)
            have q41 : s25 268 14 = s_0 268 14 + 1 := (show s25 268 14 = s20 268 14 from by rw [es25, xU_j _ _ (by decide)]).trans q23
            have hF42 := hF22.put es25 (by omega)
            have V83 : s25 278 = s_0 278 := by rw [es25, xU_k _ _ _ (by omega), V73]
            have U83 := q30
            refine x_iconst hx hb dX11_readsFactor_86 ?_
            rw [eQ]
            exact x_zret hx hb hr hlk hW (by omega) ⟨hF42, ⟨q26, q27, q28, q29, q31, q32, q34, q36, q37, q38, q39, q40, trivial⟩, Or.inr ⟨rfl, by omega, v0_0.note ⟨by omega, by omega⟩ (by omega) (by omega) (by omega) (by omega) U83 V83 ⟨by omega, by omega⟩⟩⟩ dX11_readsFactor_87
          refine x_aload_n hx hb hl 1 rfl dX11_readsFactor_60 rfl ?_
          refine x_iconst hx hb dX11_readsFactor_61 ?_
          refine x_aload_n hx hb hl 1 rfl dX11_readsFactor_62 rfl ?_
          refine x_get (j := 9) (v := .int (xJ (s_0 268 9))) hx hb hown hT hE hW cls_X11 (Or.inl (by decide)) (so_268 h0 g _) (by decide) rfl wq1194 dX11_readsFactor_63 ?_
          refine x_rd hW (fun x43 ex43 rx43 => ?_)
          have bx43 : 0 ≤ x43 ∧ x43 ≤ s_0 268 10 ∧ s_0 268 10 ≤ 240 := by rw [ex43]; exact q0_3
          have fx43 : x43 = s_0 268 9 := ex43.trans q4
          refine x_goi (x_runV (As := [.int (xJ 1), .int (xJ x43)]) hx hb hml hown hT hE hW hl.1 (Or.inl (by decide)) (so_268 h0 g _) rfl cf_X11_wrongAt wq1401 wq107 wq1399 (c_X11_wrongAt l D g T h0 s_0 hW.2.1 1 (by decide) x43 rx43 q0_0 q0_1 q0_2 q0_3) ⟨rfl, rfl, ⟨by decide, by decide⟩, ⟨by decide, by decide⟩⟩ rfl rfl (Nat.le_of_ble_eq_true rfl) dX11_readsFactor_66) hW (fun x44 s45 H locs rx44 hp46 hW => ?_)
          obtain ⟨fs45, hp46⟩ := hp46
          have hF47 := hF_0.call fs45 (fun k h => by omega)
          have ghp46 := hp46.2
          rw [eQ]
          exact x_zret hx hb hr hlk hW (by omega) ⟨hF47, ⟨hp46.1.1, hp46.1.2.1, hp46.1.2.2.1, hp46.1.2.2.2.1, (hp46.1.2.2.2.2.1.trans q0_4), (hp46.1.2.2.2.2.2.1.trans q0_5), (hp46.1.2.2.2.2.2.2.2.1.trans q0_6), (hp46.1.2.2.2.2.2.2.2.2.2.2.1.trans q0_7), (hp46.1.2.2.2.2.2.2.2.2.2.2.2.1.trans q0_8), (hp46.1.2.2.2.2.2.2.2.2.2.2.2.2.1.trans q0_9), (hp46.1.2.2.2.2.2.2.2.2.2.2.2.2.2.1.trans q0_10), (hp46.1.2.2.2.2.2.2.2.2.2.2.2.2.2.2.1.trans q0_11), trivial⟩, Or.inl ⟨by omega, by omega⟩⟩ dX11_readsFactor_69
        refine x_aload_n hx hb hl 0 rfl dX11_readsFactor_27 rfl ?_
        refine x_goi (x_runV (As := []) hx hb hml hown hT hE hW hl.1 (Or.inl (by decide)) (so_268 h0 g _) rfl cf_X11_readsNumber wq1489 wq120 wq1487 (c_X11_readsNumber l D g T h0 s_0 hW.2.1 (by omega) q0_0 q0_1 q0_2 q0_3) ⟨rfl, rfl, ⟨by decide, by decide⟩, ⟨by decide, by decide⟩⟩ rfl rfl (Nat.le_of_ble_eq_true rfl) dX11_readsFactor_28) hW (fun x48 s49 H locs rx48 hp50 hW => ?_)
        obtain ⟨fs49, hp50⟩ := hp50
        have hF51 := hF_0.call fs49 (fun k h => by omega)
        have ghp50 := hp50.2
        have A28 := ghp50
        have B28 : s49 277 = s_0 277 := fs49 277 (by omega)
        have C28 : s49 268 14 = s_0 268 14 := by omega
        have D28 : s49 278 = s_0 278 := fs49 278 (by omega)
        refine x_if_ne (tgt := 36) hx hb rx48 dX11_readsFactor_31 (by decide) (fun c52 => ?_) (fun c52 => ?_)
        · skip
          refine x_aload_n hx hb hl 0 rfl dX11_readsFactor_36 rfl ?_
          refine x_iconst hx hb dX11_readsFactor_37 ?_
          refine x_aload_n hx hb hl 0 rfl dX11_readsFactor_38 rfl ?_
          refine x_get (j := 12) (v := .int (xJ (s49 268 12))) hx hb hown hT hE hW cls_X11 (Or.inl (by decide)) (so_268 h0 g _) (by decide) rfl wq1197 dX11_readsFactor_39 ?_
          refine x_rd hW (fun x53 ex53 rx53 => ?_)
          refine x_gov (x_runV (As := [.int (xJ 0), .int (xJ x53)]) hx hb hml hown hT hE hW hl.1 (Or.inl (by decide)) (so_268 h0 g _) rfl cf_X11_notes wq1493 wq121 wq1491 (c_X11_notes l D g T h0 s49 hW.2.1 0 (by decide) x53 rx53 (by omega) (by omega) (by omega) hp50.1.1 hp50.1.2.1 hp50.1.2.2.1 hp50.1.2.2.2.1) ⟨rfl, rfl, ⟨by decide, by decide⟩, ⟨by decide, by decide⟩⟩ rfl rfl (Nat.le_of_ble_eq_true rfl) dX11_readsFactor_42) hW (fun s55 H locs hp56 hW => ?_)
          obtain ⟨fs55, hp56⟩ := hp56
          have hF57 := hF51.call fs55 (fun k h => by omega)
          have ghp56 := hp56.2
          have U42 := hp56.1.2.2.2.2.1
          rw [B28, C28] at U42
          have V42 := (fs55 278 (by omega)).trans D28
          refine x_iconst hx hb dX11_readsFactor_45 ?_
          rw [eQ]
          exact x_zret hx hb hr hlk hW (by omega) ⟨hF57, ⟨hp56.1.1, hp56.1.2.1, hp56.1.2.2.1, hp56.1.2.2.2.1, (hp56.1.2.2.2.2.2.1.trans (hp50.1.2.2.2.2.1.trans q0_4)), (hp56.1.2.2.2.2.2.2.1.trans (hp50.1.2.2.2.2.2.1.trans q0_5)), (hp56.1.2.2.2.2.2.2.2.2.1.trans (hp50.1.2.2.2.2.2.2.1.trans q0_6)), (hp56.1.2.2.2.2.2.2.2.2.2.2.1.trans (hp50.1.2.2.2.2.2.2.2.2.2.1.trans q0_7)), (hp56.1.2.2.2.2.2.2.2.2.2.2.2.1.trans (hp50.1.2.2.2.2.2.2.2.2.2.2.1.trans q0_8)), (hp56.1.2.2.2.2.2.2.2.2.2.2.2.2.1.trans (hp50.1.2.2.2.2.2.2.2.2.2.2.2.1.trans q0_9)), (hp56.1.2.2.2.2.2.2.2.2.2.2.2.2.2.1.trans (hp50.1.2.2.2.2.2.2.2.2.2.2.2.2.1.trans q0_10)), (hp56.1.2.2.2.2.2.2.2.2.2.2.2.2.2.2.1.trans (hp50.1.2.2.2.2.2.2.2.2.2.2.2.2.2.1.trans q0_11)), trivial⟩, Or.inr ⟨rfl, by omega, v0_0.note ⟨by omega, by omega⟩ (by omega) (by omega) (by omega) (by omega) U42 V42 ⟨by omega, by omega⟩⟩⟩ dX11_readsFactor_46
        refine x_iconst hx hb dX11_readsFactor_34 ?_
        rw [eQ]
        exact x_zret hx hb hr hlk hW (by omega) ⟨hF51, ⟨hp50.1.1, hp50.1.2.1, hp50.1.2.2.1, hp50.1.2.2.2.1, (hp50.1.2.2.2.2.1.trans q0_4), (hp50.1.2.2.2.2.2.1.trans q0_5), (hp50.1.2.2.2.2.2.2.1.trans q0_6), (hp50.1.2.2.2.2.2.2.2.2.2.1.trans q0_7), (hp50.1.2.2.2.2.2.2.2.2.2.2.1.trans q0_8), (hp50.1.2.2.2.2.2.2.2.2.2.2.2.1.trans q0_9), (hp50.1.2.2.2.2.2.2.2.2.2.2.2.2.1.trans q0_10), (hp50.1.2.2.2.2.2.2.2.2.2.2.2.2.2.1.trans q0_11), trivial⟩, Or.inl ⟨by omega, by omega⟩⟩ dX11_readsFactor_35
      refine x_aload_n hx hb hl 0 rfl dX11_readsFactor_9 rfl ?_
      refine x_bipush hx hb dX11_readsFactor_10 (by decide) ?_
      refine x_goi (x_runV (As := [.int (xJ 14)]) hx hb hml hown hT hE hW hl.1 (Or.inl (by decide)) (so_268 h0 g _) rfl cf_X11_opens wq1480 wq118 wq1478 (c_X11_opens l D g T h0 s_0 hW.2.1 14 (by decide) (by omega) (by omega) (by omega) q0_0 q0_1 q0_2 q0_3) ⟨rfl, rfl, ⟨by decide, by decide⟩, ⟨by decide, by decide⟩⟩ rfl rfl (Nat.le_of_ble_eq_true rfl) dX11_readsFactor_12) hW (fun x58 s59 H locs rx58 hp60 hW => ?_)
      obtain ⟨fs59, hp60⟩ := hp60
      have hF61 := hF_0.call fs59 (fun k h => by omega)
      have ghp60 := hp60.2
      have A12 := ghp60
      have B12 : s59 277 = s_0 277 := fs59 277 (by omega)
      refine x_if_ne (tgt := 0) hx hb rx58 dX11_readsFactor_15 (by decide) (fun c62 => ?_) (fun c62 => ?_)
      · skip
        exact ih0 s59 H locs ls hF61 hp60.1.1 hp60.1.2.1 hp60.1.2.2.1 hp60.1.2.2.2.1 (hp60.1.2.2.2.2.1.trans q0_4) (hp60.1.2.2.2.2.2.1.trans q0_5) (hp60.1.2.2.2.2.2.2.1.trans q0_6) (hp60.1.2.2.2.2.2.2.2.2.1.trans q0_7) (hp60.1.2.2.2.2.2.2.2.2.2.1.trans q0_8) (hp60.1.2.2.2.2.2.2.2.2.2.2.1.trans q0_9) (hp60.1.2.2.2.2.2.2.2.2.2.2.2.1.trans q0_10) (hp60.1.2.2.2.2.2.2.2.2.2.2.2.2.1.trans q0_11) (v0_0.push ⟨by omega, by omega⟩ (by omega) (by omega) (by omega) (by omega) B12 (A12.resolve_left (fun q => absurd q.1 (by omega))).2.2.2 (Or.inr ⟨by omega, rfl⟩)) (by omega) (by omega) hW (lv_sub hl [0] rfl)
      refine x_iconst hx hb dX11_readsFactor_18 ?_
      rw [eQ]
      exact x_zret hx hb hr hlk hW (by omega) ⟨hF61, ⟨hp60.1.1, hp60.1.2.1, hp60.1.2.2.1, hp60.1.2.2.2.1, (hp60.1.2.2.2.2.1.trans q0_4), (hp60.1.2.2.2.2.2.1.trans q0_5), (hp60.1.2.2.2.2.2.2.1.trans q0_6), (hp60.1.2.2.2.2.2.2.2.2.1.trans q0_7), (hp60.1.2.2.2.2.2.2.2.2.2.1.trans q0_8), (hp60.1.2.2.2.2.2.2.2.2.2.2.1.trans q0_9), (hp60.1.2.2.2.2.2.2.2.2.2.2.2.1.trans q0_10), (hp60.1.2.2.2.2.2.2.2.2.2.2.2.2.1.trans q0_11), trivial⟩, Or.inl ⟨by omega, by omega⟩⟩ dX11_readsFactor_19
  exact L0 ((241 - s0 268 9 : Int).toNat + 1) s0 H locs ls hF p0 p1 p2 p3 k268_8 k268_58 k268_10 k268_16 k268_34 k268_35 k268_36 k268_37 (hls) (by omega) (Nat.lt_succ_self _) hW (lv_sub hl [0] rfl)

