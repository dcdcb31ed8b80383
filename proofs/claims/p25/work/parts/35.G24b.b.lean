set_option maxHeartbeats 4000000 in
set_option maxRecDepth 100000 in
theorem c_X11_marketM (l : Launch) (D : va_G) (g : xG) (T : Nat × Nat × Nat) (h0 : Nat) (s0 : xS) (hσ : xRR s0) (n : Int) (rn : xR n) (p0 : IMn s0) (p1 : IMk s0) (p2 : IMo s0) : Met l yX11_market (xws yX11_market cX11_market 5 (some .int)) { frames := 3, cells := 0, slots := 0, locals := 67 } (xP [.ref (h0 + 268), .int (xJ n)] D g T h0 s0) (xQi D g h0 (fun r τ => xFr (fun k => k = 268 ∨ k = 269 ∨ k = 272 ∨ k = 273 ∨ k = 288) s0 τ ∧ (((IMn τ) ∧ (IMk τ) ∧ (IMo τ) ∧ (τ 269 37 = s0 269 37) ∧ True) ∧ (((n < 1 ∨ 140 < n ∨ s0 268 8 < n) ∧ τ 268 8 = s0 268 8 ∧ r = -1 ∧ τ 288 = s0 288 ∧ τ 272 = s0 272 ∧ τ 268 58 = s0 268 58) ∨ (¬ (n < 1 ∨ 140 < n ∨ s0 268 8 < n) ∧ τ 268 8 = 0 ∧ τ 288 = (zMk (xm8 (s0 276)) n (s0 288)).2.2 ∧ (((zMk (xm8 (s0 276)) n (s0 288)).1 ≠ 0 ∧ r = (zMk (xm8 (s0 276)) n (s0 288)).1 ∧ τ 272 = s0 272 ∧ τ 268 58 = s0 268 58) ∨ ((zMk (xm8 (s0 276)) n (s0 288)).1 = 0 ∧ (∀ j, 0 ≤ j → j < 100 → τ 272 j = (zMk (xm8 (s0 276)) n (s0 288)).2.2 j) ∧ r = 100 - zct (zMk (xm8 (s0 276)) n (s0 288)).2.2 0 100 ∧ τ 268 58 = 0))))))) 0 0 (xA h0) := by
  refine x_met hσ (by decide) (Nat.le_of_ble_eq_true rfl) ?_
  intro p e s m args below meth c hx hb hr hml hown hT hlk hnm hE hW ls hl
  have hl : lv_has ls 5 [(0, .ref (h0 + 268)), (1, .int (xJ n))] := hl
  obtain ⟨Q, eQ⟩ : ∃ Q, Q = MQ below (xQi D g h0 (fun r τ => xFr (fun k => k = 268 ∨ k = 269 ∨ k = 272 ∨ k = 273 ∨ k = 288) s0 τ ∧ (((IMn τ) ∧ (IMk τ) ∧ (IMo τ) ∧ (τ 269 37 = s0 269 37) ∧ True) ∧ (((n < 1 ∨ 140 < n ∨ s0 268 8 < n) ∧ τ 268 8 = s0 268 8 ∧ r = -1 ∧ τ 288 = s0 288 ∧ τ 272 = s0 272 ∧ τ 268 58 = s0 268 58) ∨ (¬ (n < 1 ∨ 140 < n ∨ s0 268 8 < n) ∧ τ 268 8 = 0 ∧ τ 288 = (zMk (xm8 (s0 276)) n (s0 288)).2.2 ∧ (((zMk (xm8 (s0 276)) n (s0 288)).1 ≠ 0 ∧ r = (zMk (xm8 (s0 276)) n (s0 288)).1 ∧ τ 272 = s0 272 ∧ τ 268 58 = s0 268 58) ∨ ((zMk (xm8 (s0 276)) n (s0 288)).1 = 0 ∧ (∀ j, 0 ≤ j → j < 100 → τ 272 j = (zMk (xm8 (s0 276)) n (s0 288)).2.2 j) ∧ r = 100 - zct (zMk (xm8 (s0 276)) n (s0 288)).2.2 0 100 ∧ τ 268 58 = 0))))))) args s 0 0 (xA h0) := ⟨_, rfl⟩
  rw [← eQ]
  generalize hHe : ([] : List Loc) = locs at hW ⊢
  obtain ⟨H, eH⟩ : ∃ H, H = s.heap := ⟨_, rfl⟩
  rw [← eH] at hW ⊢
  have hF : xFr (fun k => k = 268 ∨ k = 269 ∨ k = 272 ∨ k = 273 ∨ k = 288) s0 s0 := xFr.rf
  have k269_37 : s0 269 37 = s0 269 37 := rfl
  have k268_8 : s0 268 8 = s0 268 8 := rfl
  have k268_58 : s0 268 58 = s0 268 58 := rfl
  refine x_iload_n hx hb hl 1 rfl dX11_market_0 rfl ?_
  refine x_iconst hx hb dX11_market_1 ?_
  refine x_sipush hx hb dX11_market_2 (by decide) ?_
  refine x_goi (x_runS (As := [.int (xJ n), .int (xJ 1), .int (xJ 140)]) hx hb hml hown hT hE hW hl.1 cf_X11_in wq1383 wq1382 (c_X11_in l D g T h0 s0 hW.2.1 n rn 1 (by decide) 140 (by decide)) ⟨rfl, rfl, ⟨by decide, by decide⟩, ⟨by decide, by decide⟩⟩ rfl rfl (Nat.le_of_ble_eq_true rfl) dX11_market_5) hW (fun x1 s2 H locs rx1 hp3 hW => ?_)
  obtain ⟨es2, hp3⟩ := hp3
  subst es2
  have ghp3 := hp3
  refine x_if_eq (tgt := 19) hx hb rx1 dX11_market_8 (by decide) (fun c4 => ?_) (fun c4 => ?_)
  · skip
    refine x_iconst hx hb dX11_market_19 ?_
    rw [eQ]
    exact x_iret hx hb hr hlk hW (by decide) ⟨hF, ⟨p0, p1, p2, k269_37, trivial⟩, Or.inl ⟨by omega, by omega, by omega, rfl, rfl, rfl⟩⟩ dX11_market_20
  refine x_iload_n hx hb hl 1 rfl dX11_market_11 rfl ?_
  refine x_aload_n hx hb hl 0 rfl dX11_market_12 rfl ?_
  refine x_get (j := 8) (v := .int (xJ (s0 268 8))) hx hb hown hT hE hW cls_X11 (Or.inl (by decide)) (so_268 h0 g _) (by decide) rfl wq1193 dX11_market_13 ?_
  refine x_rd hW (fun x5 ex5 rx5 => ?_)
  have bx5 : 0 ≤ x5 ∧ x5 ≤ 260 := by rw [ex5]; exact IMn.t p0
  have fx5 : x5 = s0 268 8 := ex5.trans k268_8
  refine x_icmp_le (tgt := 21) hx hb rn rx5 dX11_market_16 (by decide) (fun c6 => ?_) (fun c6 => ?_)
  · skip
    refine x_aload_n hx hb hl 0 rfl dX11_market_21 rfl ?_
    refine x_iconst hx hb dX11_market_22 ?_
    refine x_put (j := 9) hx hb hown hT hE hW cls_X11 (by decide) (fun σ => so_268 h0 g σ) (by decide) (st_X11_9 h0 s0 268 0) (ln_X11_9 h0 _ _) wq1194 rfl rfl rfl (by decide) dX11_market_23 (fun H locs s7 es7 hW => ?_)
    have q8 : IMn s7 := by rw [es7]; exact IMn_268 p0 (by omega)
    have q9 : IMk s7 := by rw [es7]; exact IMk_268 p1 (by omega)
    have q10 : IMo s7 := by rw [es7]; exact IMo_o (by unfold suIMo; omega) p2
    have q11 : s7 269 37 = s0 269 37 := (show s7 269 37 = s0 269 37 from by rw [es7, xU_k _ _ _ (by omega)]).trans k269_37
    have q12 : s7 268 8 = s0 268 8 := (show s7 268 8 = s0 268 8 from by rw [es7, xU_j _ _ (by decide)]).trans k268_8
    have q13 : s7 268 58 = s0 268 58 := (show s7 268 58 = s0 268 58 from by rw [es7, xU_j _ _ (by decide)]).trans k268_58
    have q14 : s7 268 9 = 0 := by rw [es7, xU_s]
    have hF15 := hF.put es7 (by omega)
    have Q23 : s7 288 = s0 288 ∧ s7 272 = s0 272 := by rw [es7, xU_k _ _ _ (by omega), xU_k _ _ _ (by omega)]; exact ⟨rfl, rfl⟩
    refine x_aload_n hx hb hl 0 rfl dX11_market_26 rfl ?_
    refine x_iload_n hx hb hl 1 rfl dX11_market_27 rfl ?_
    refine x_put (j := 10) hx hb hown hT hE hW cls_X11 (by decide) (fun σ => so_268 h0 g σ) (by decide) (st_X11_10 h0 s7 268 n) (ln_X11_10 h0 _ _) wq1195 rfl rfl rfl rn dX11_market_28 (fun H locs s16 es16 hW => ?_)
    have q17 : IMn s16 := by rw [es16]; exact IMn_268 q8 (by omega)
    have q18 : IMk s16 := by rw [es16]; exact IMk_268 q9 (by omega)
    have q19 : IMo s16 := by rw [es16]; exact IMo_o (by unfold suIMo; omega) q10
    have q20 : s16 269 37 = s0 269 37 := (show s16 269 37 = s7 269 37 from by rw [es16, xU_k _ _ _ (by omega)]).trans q11
    have q21 : s16 268 8 = s0 268 8 := (show s16 268 8 = s7 268 8 from by rw [es16, xU_j _ _ (by decide)]).trans q12
    have q22 : s16 268 58 = s0 268 58 := (show s16 268 58 = s7 268 58 from by rw [es16, xU_j _ _ (by decide)]).trans q13
    have q23 : s16 268 9 = 0 := (show s16 268 9 = s7 268 9 from by rw [es16, xU_j _ _ (by decide)]).trans q14
    have q24 : s16 268 10 = n := by rw [es16, xU_s]
    have hF25 := hF15.put es16 (by omega)
    have q26 : IR s16 := by unfold IR; omega
    have Q28 : s16 288 = s0 288 ∧ s16 272 = s0 272 := by rw [es16, xU_k _ _ _ (by omega), xU_k _ _ _ (by omega)]; exact Q23
    have G28 : s16 276 = s0 276 := hF25 276 (by omega)
    have N28 : s16 268 10 = n := by omega
    have P28 : s16 268 9 = 0 := by omega
    refine x_aload_n hx hb hl 0 rfl dX11_market_31 rfl ?_
    refine x_iconst hx hb dX11_market_32 ?_
    refine x_goi (x_runV (As := [.int (xJ 0)]) hx hb hml hown hT hE hW hl.1 (Or.inl (by decide)) (so_268 h0 g _) rfl cf_X11_readsRow wq1387 wq105 wq1385 (c_X11_readsRowM l D g T h0 s16 hW.2.1 0 (by decide) (by omega) q17 q18 q19 q26) ⟨rfl, rfl, ⟨by decide, by decide⟩, ⟨by decide, by decide⟩⟩ rfl rfl (Nat.le_of_ble_eq_true rfl) dX11_market_33) hW (fun x27 s28 H locs rx27 hp29 hW => ?_)
    obtain ⟨fs28, hp29⟩ := hp29
    have hF30 := hF25.call fs28 (fun k h => by omega)
    have q31 : s28 269 37 = s0 269 37 := (congrFun (fs28 _ (by omega)) _).trans q20
    have ghp29 := hp29.2
    have R33 := ghp29
    rw [G28, N28, P28, Q28.1] at R33
    have D33 := R33.cs
    have Q33 : s28 272 = s0 272 := (fs28 272 (by omega)).trans Q28.2
    have B33 : (x27 = 1 ∧ zMk (xm8 (s0 276)) n (s0 288) = zM (xm8 (s0 276)) n (10 - 1 : Int).toNat 1 (s28 268 9) (s28 288)) ∨ (x27 = 0 ∧ (zMk (xm8 (s0 276)) n (s0 288)).1 ≠ 0 ∧ s28 268 11 = (zMk (xm8 (s0 276)) n (s0 288)).1 ∧ (zMk (xm8 (s0 276)) n (s0 288)).2.2 = s28 288) := by
      rcases D33 with ⟨d1, d2⟩ | ⟨d1, d2, d3, d4⟩
      · exact Or.inl ⟨d1, zN_ok (k := 9) d2⟩
      · have z : zMk (xm8 (s0 276)) n (s0 288) = _ := zN_bad (k := 9) d2
        rw [z]
        exact Or.inr ⟨d1, d2, d3, d4⟩
    refine lv_istore_n (lv' := [(2, .int (xJ x27)), (0, .ref (h0 + 268)), (1, .int (xJ n))]) hx hb dX11_market_36 rfl hl (by decide) rfl (fun ls hl => ?_)
    refine x_iconst hx hb dX11_market_37 ?_
    refine lv_istore_n (lv' := [(3, .int (xJ 1)), (2, .int (xJ x27)), (0, .ref (h0 + 268)), (1, .int (xJ n))]) hx hb dX11_market_38 rfl hl (by decide) rfl (fun ls hl => ?_)
    have L39 : ∀ (fu : Nat) (i2_39 : Int) (i3_39 : Int) (s_39 : xS) (H : Heap) (locs : List Loc) (ls : Array Slot), (xR i2_39) → (xR i3_39) → (xFr (fun k => k = 268 ∨ k = 269 ∨ k = 272 ∨ k = 273 ∨ k = 288) s0 s_39) → (s_39 269 37 = s0 269 37) → (IMn s_39) → (IMk s_39) → (IMo s_39) → (IR s_39) → (s_39 268 8 = s0 268 8) → (s_39 268 58 = s0 268 58) → (s_39 268 10 = n) → (1 ≤ i3_39 ∧ i3_39 ≤ 10) → ((i2_39 = 1 ∧ zMk (xm8 (s0 276)) n (s0 288) = zM (xm8 (s0 276)) n (10 - i3_39).toNat i3_39 (s_39 268 9) (s_39 288)) ∨ (i2_39 = 0 ∧ (zMk (xm8 (s0 276)) n (s0 288)).1 ≠ 0 ∧ s_39 268 11 = (zMk (xm8 (s0 276)) n (s0 288)).1 ∧ (zMk (xm8 (s0 276)) n (s0 288)).2.2 = s_39 288)) → (s_39 272 = s0 272) → (10 - i3_39).toNat < fu → xW D g h0 s H locs s_39 → lv_has ls 5 [(0, .ref (h0 + 268)), (2, .int (xJ i2_39)), (3, .int (xJ i3_39))] → W p l e { frames := 3, cells := 0, slots := 0, locals := 67 } s m args below meth c H locs 0 0 Q (F0 m 39 ls []) := by
      intro fu
      induction fu with
      | zero => intro i2_39 i3_39 s_39 H locs ls ri2_39 ri3_39 hF_39 q39_0 q39_1 q39_2 q39_3 q39_4 q39_5 q39_6 q39_7 v39_0 v39_1 v39_2 hm; exact absurd hm (Nat.not_lt_zero _)
      | succ fu ih39 =>
        intro i2_39 i3_39 s_39 H locs ls ri2_39 ri3_39 hF_39 q39_0 q39_1 q39_2 q39_3 q39_4 q39_5 q39_6 q39_7 v39_0 v39_1 v39_2 hm hW hl
        have r39 : 0 ≤ s_39 268 9 ∧ s_39 268 9 ≤ s_39 268 10 ∧ s_39 268 10 ≤ 240 := q39_4
        refine x_iload_n hx hb hl 2 rfl dX11_market_39 rfl ?_
        refine x_bipush hx hb dX11_market_40 (by decide) ?_
        have J78 : ∀ (ls : Array Slot), (i3_39 ≥ 10 ∨ i2_39 = 0) → lv_has ls 5 [(0, .ref (h0 + 268)), (2, .int (xJ i2_39))] → W p l e { frames := 3, cells := 0, slots := 0, locals := 67 } s m args below meth c H locs 0 0 Q (F0 m 78 ls []) := by
          intro ls v78_0  hl
          refine x_iload_n hx hb hl 1 rfl dX11_market_78 rfl ?_
          have J103 : ∀ (i2_103 : Int) (s_103 : xS) (H : Heap) (locs : List Loc) (ls : Array Slot), (xR i2_103) → (xFr (fun k => k = 268 ∨ k = 269 ∨ k = 272 ∨ k = 273 ∨ k = 288) s0 s_103) → (s_103 269 37 = s0 269 37) → (IMn s_103) → (IMk s_103) → (IMo s_103) → (IR s_103) → (s_103 268 8 = s0 268 8) → (s_103 268 58 = s0 268 58) → (s_103 268 10 = n) → ((i2_103 = 1 ∧ (zMk (xm8 (s0 276)) n (s0 288)).1 = 0 ∧ (zMk (xm8 (s0 276)) n (s0 288)).2.2 = s_103 288) ∨ (i2_103 = 0 ∧ (zMk (xm8 (s0 276)) n (s0 288)).1 ≠ 0 ∧ s_103 268 11 = (zMk (xm8 (s0 276)) n (s0 288)).1 ∧ (zMk (xm8 (s0 276)) n (s0 288)).2.2 = s_103 288)) → (s_103 272 = s0 272) → xW D g h0 s H locs s_103 → lv_has ls 5 [(0, .ref (h0 + 268)), (2, .int (xJ i2_103))] → W p l e { frames := 3, cells := 0, slots := 0, locals := 67 } s m args below meth c H locs 0 0 Q (F0 m 103 ls []) := by
            intro i2_103 s_103 H locs ls ri2_103 hF_103 q103_0 q103_1 q103_2 q103_3 q103_4 q103_5 q103_6 q103_7 v103_0 v103_1 hW hl
            refine x_aload_n hx hb hl 0 rfl dX11_market_103 rfl ?_
            refine x_iconst hx hb dX11_market_104 ?_
            refine x_put (j := 8) hx hb hown hT hE hW cls_X11 (by decide) (fun σ => so_268 h0 g σ) (by decide) (st_X11_8 h0 s_103 268 0) (ln_X11_8 h0 _ _) wq1193 rfl rfl rfl (by decide) dX11_market_105 (fun H locs s32 es32 hW => ?_)
            have q33 : s32 269 37 = s0 269 37 := (show s32 269 37 = s_103 269 37 from by rw [es32, xU_k _ _ _ (by omega)]).trans q103_0
            have q34 : IMn s32 := by rw [es32]; exact IMn_268 q103_1 (by omega)
            have q35 : IMk s32 := by rw [es32]; exact IMk_268 q103_2 (by omega)
            have q36 : IMo s32 := by rw [es32]; exact IMo_o (by unfold suIMo; omega) q103_3
            have q37 : IR s32 := by rw [es32]; exact IR_268 q103_4 (by omega)
            have q38 : s32 268 8 = 0 := by rw [es32, xU_s]
            have q39 : s32 268 58 = s0 268 58 := (show s32 268 58 = s_103 268 58 from by rw [es32, xU_j _ _ (by decide)]).trans q103_6
            have q40 : s32 268 10 = n := (show s32 268 10 = s_103 268 10 from by rw [es32, xU_j _ _ (by decide)]).trans q103_7
            have hF41 := hF_103.put es32 (by omega)
            have R105 : (i2_103 = 1 ∧ (zMk (xm8 (s0 276)) n (s0 288)).1 = 0 ∧ (zMk (xm8 (s0 276)) n (s0 288)).2.2 = s32 288) ∨ (i2_103 = 0 ∧ (zMk (xm8 (s0 276)) n (s0 288)).1 ≠ 0 ∧ s32 268 11 = (zMk (xm8 (s0 276)) n (s0 288)).1 ∧ (zMk (xm8 (s0 276)) n (s0 288)).2.2 = s32 288) := by rw [es32, xU_k _ _ _ (by omega), xU_j _ _ (by decide)]; exact v103_0
            have Q105 : s32 272 = s0 272 := by rw [es32, xU_k _ _ _ (by omega)]; exact v103_1
            obtain ⟨K9, eK9⟩ : ∃ K9, K9 = s32 288 := ⟨_, rfl⟩
            rw [← eK9] at R105
            refine x_iload_n hx hb hl 1 rfl dX11_market_108 rfl ?_
            refine x_if_ne (tgt := 117) hx hb ri2_103 dX11_market_109 (by decide) (fun c42 => ?_) (fun c42 => ?_)
            · skip
              refine x_iconst hx hb dX11_market_117 ?_
              refine lv_istore_n (lv' := [(3, .int (xJ 0)), (0, .ref (h0 + 268)), (2, .int (xJ i2_103))]) hx hb dX11_market_118 rfl hl (by decide) rfl (fun ls hl => ?_)
              refine x_iconst hx hb dX11_market_119 ?_
              refine lv_istore (lv' := [(4, .int (xJ 0)), (3, .int (xJ 0)), (0, .ref (h0 + 268)), (2, .int (xJ i2_103))]) hx hb dX11_market_120 hl (by decide) rfl (fun ls hl => ?_)
              have L122 : ∀ (fu : Nat) (i3_122 : Int) (i4_122 : Int) (s_122 : xS) (H : Heap) (locs : List Loc) (ls : Array Slot), (xR i3_122) → (xR i4_122) → (xFr (fun k => k = 268 ∨ k = 269 ∨ k = 272 ∨ k = 273 ∨ k = 288) s0 s_122) → (s_122 269 37 = s0 269 37) → (IMn s_122) → (IMk s_122) → (IMo s_122) → (IR s_122) → (s_122 268 8 = 0) → (s_122 268 58 = s0 268 58) → (s_122 268 10 = n) → (0 ≤ i4_122 ∧ i4_122 ≤ 100) → (i3_122 = i4_122 - zct K9 0 (i4_122).toNat) → (s_122 288 = K9) → (∀ q : Int, 0 ≤ q → q < i4_122 → s_122 272 q = K9 q) → (0 ≤ i3_122 ∧ i3_122 ≤ i4_122) → (100 - i4_122).toNat < fu → xW D g h0 s H locs s_122 → lv_has ls 5 [(0, .ref (h0 + 268)), (3, .int (xJ i3_122)), (4, .int (xJ i4_122))] → W p l e { frames := 3, cells := 0, slots := 0, locals := 67 } s m args below meth c H locs 0 0 Q (F0 m 122 ls []) := by
                intro fu
                induction fu with
                | zero => intro i3_122 i4_122 s_122 H locs ls ri3_122 ri4_122 hF_122 q122_0 q122_1 q122_2 q122_3 q122_4 q122_5 q122_6 q122_7 v122_0 v122_1 v122_2 v122_3 v122_4 hm; exact absurd hm (Nat.not_lt_zero _)
                | succ fu ih122 =>
                  intro i3_122 i4_122 s_122 H locs ls ri3_122 ri4_122 hF_122 q122_0 q122_1 q122_2 q122_3 q122_4 q122_5 q122_6 q122_7 v122_0 v122_1 v122_2 v122_3 v122_4 hm hW hl
                  refine x_iload hx hb hl 2 rfl dX11_market_122 ?_
                  refine x_bipush hx hb dX11_market_124 (by decide) ?_
                  refine x_icmp_ge (tgt := 167) hx hb ri4_122 (by decide) dX11_market_126 (by decide) (fun c43 => ?_) (fun c43 => ?_)
                  · skip
                    refine x_iconst hx hb dX11_market_167 ?_
                    refine lv_istore (lv' := [(4, .int (xJ 0)), (0, .ref (h0 + 268)), (3, .int (xJ i3_122))]) hx hb dX11_market_168 hl (by decide) rfl (fun ls hl => ?_)
                    have L170 : ∀ (fu : Nat) (i4_170 : Int) (s_170 : xS) (H : Heap) (locs : List Loc) (ls : Array Slot), (xR i4_170) → (xFr (fun k => k = 268 ∨ k = 269 ∨ k = 272 ∨ k = 273 ∨ k = 288) s0 s_170) → (s_170 269 37 = s0 269 37) → (IMn s_170) → (IMk s_170) → (IMo s_170) → (IR s_170) → (s_170 268 8 = 0) → (s_170 268 58 = s0 268 58) → (s_170 268 10 = n) → (0 ≤ i4_170) → (i4_170 ≤ 2) → (s_170 272 = s_122 272 ∧ s_170 288 = K9) → (2 + 1 - i4_170).toNat < fu → xW D g h0 s H locs s_170 → lv_has ls 5 [(0, .ref (h0 + 268)), (3, .int (xJ i3_122)), (4, .int (xJ i4_170))] → W p l e { frames := 3, cells := 0, slots := 0, locals := 67 } s m args below meth c H locs 0 0 Q (F0 m 170 ls []) := by
                      intro fu
                      induction fu with
                      | zero => intro i4_170 s_170 H locs ls ri4_170 hF_170 q170_0 q170_1 q170_2 q170_3 q170_4 q170_5 q170_6 q170_7 v170_0 v170_1 v170_2 hm; exact absurd hm (Nat.not_lt_zero _)
                      | succ fu ih170 =>
                        intro i4_170 s_170 H locs ls ri4_170 hF_170 q170_0 q170_1 q170_2 q170_3 q170_4 q170_5 q170_6 q170_7 v170_0 v170_1 v170_2 hm hW hl
                        refine x_iload hx hb hl 2 rfl dX11_market_170 ?_
                        refine x_iconst hx hb dX11_market_172 ?_
                        refine x_icmp_ge (tgt := 228) hx hb ri4_170 (by decide) dX11_market_173 (by decide) (fun c44 => ?_) (fun c44 => ?_)
                        · skip
                          refine x_iconst hx hb dX11_market_228 ?_
                          refine lv_istore (lv' := [(4, .int (xJ 0)), (0, .ref (h0 + 268)), (3, .int (xJ i3_122))]) hx hb dX11_market_229 hl (by decide) rfl (fun ls hl => ?_)
                          have L231 : ∀ (fu : Nat) (i4_231 : Int) (s_231 : xS) (H : Heap) (locs : List Loc) (ls : Array Slot), (xR i4_231) → (xFr (fun k => k = 268 ∨ k = 269 ∨ k = 272 ∨ k = 273 ∨ k = 288) s0 s_231) → (s_231 269 37 = s0 269 37) → (IMn s_231) → (IMk s_231) → (IMo s_231) → (IR s_231) → (s_231 268 8 = 0) → (s_231 268 58 = s0 268 58) → (s_231 268 10 = n) → (0 ≤ i4_231) → (i4_231 ≤ 10) → (s_231 272 = s_122 272 ∧ s_231 288 = K9) → (10 + 1 - i4_231).toNat < fu → xW D g h0 s H locs s_231 → lv_has ls 5 [(0, .ref (h0 + 268)), (3, .int (xJ i3_122)), (4, .int (xJ i4_231))] → W p l e { frames := 3, cells := 0, slots := 0, locals := 67 } s m args below meth c H locs 0 0 Q (F0 m 231 ls []) := by
                            intro fu
                            induction fu with
                            | zero => intro i4_231 s_231 H locs ls ri4_231 hF_231 q231_0 q231_1 q231_2 q231_3 q231_4 q231_5 q231_6 q231_7 v231_0 v231_1 v231_2 hm; exact absurd hm (Nat.not_lt_zero _)
                            | succ fu ih231 =>
                              intro i4_231 s_231 H locs ls ri4_231 hF_231 q231_0 q231_1 q231_2 q231_3 q231_4 q231_5 q231_6 q231_7 v231_0 v231_1 v231_2 hm hW hl
                              refine x_iload hx hb hl 2 rfl dX11_market_231 ?_
                              refine x_bipush hx hb dX11_market_233 (by decide) ?_
                              refine x_icmp_ge (tgt := 290) hx hb ri4_231 (by decide) dX11_market_235 (by decide) (fun c45 => ?_) (fun c45 => ?_)
                              · skip
                                refine x_aload_n hx hb hl 0 rfl dX11_market_290 rfl ?_
                                refine x_iconst hx hb dX11_market_291 ?_
                                refine x_put (j := 58) hx hb hown hT hE hW cls_X11 (by decide) (fun σ => so_268 h0 g σ) (by decide) (st_X11_58 h0 s_231 268 0) (ln_X11_58 h0 _ _) wq1243 rfl rfl rfl (by decide) dX11_market_292 (fun H locs s46 es46 hW => ?_)
                                have q47 : s46 269 37 = s0 269 37 := (show s46 269 37 = s_231 269 37 from by rw [es46, xU_k _ _ _ (by omega)]).trans q231_0
                                have q48 : IMn s46 := by rw [es46]; exact IMn_268 q231_1 (by omega)
                                have q49 : IMk s46 := by rw [es46]; exact IMk_268 q231_2 (by omega)
                                have q50 : IMo s46 := by rw [es46]; exact IMo_o (by unfold suIMo; omega) q231_3
                                have q51 : IR s46 := by rw [es46]; exact IR_268 q231_4 (by omega)
                                have q52 : s46 268 8 = 0 := (show s46 268 8 = s_231 268 8 from by rw [es46, xU_j _ _ (by decide)]).trans q231_5
                                have q53 : s46 268 58 = 0 := by rw [es46, xU_s]
                                have q54 : s46 268 10 = n := (show s46 268 10 = s_231 268 10 from by rw [es46, xU_j _ _ (by decide)]).trans q231_7
                                have hF55 := hF_231.put es46 (by omega)
                                refine x_iconst hx hb dX11_market_295 ?_
                                refine lv_istore (lv' := [(4, .int (xJ 0)), (0, .ref (h0 + 268)), (3, .int (xJ i3_122))]) hx hb dX11_market_296 hl (by decide) rfl (fun ls hl => ?_)
                                have L298 : ∀ (fu : Nat) (i4_298 : Int) (s_298 : xS) (H : Heap) (locs : List Loc) (ls : Array Slot), (xR i4_298) → (xFr (fun k => k = 268 ∨ k = 269 ∨ k = 272 ∨ k = 273 ∨ k = 288) s0 s_298) → (s_298 269 37 = s0 269 37) → (IMn s_298) → (IMk s_298) → (IMo s_298) → (IR s_298) → (s_298 268 8 = 0) → (s_298 268 58 = 0) → (s_298 268 10 = n) → (0 ≤ i4_298) → (i4_298 ≤ 4) → (s_298 272 = s_122 272 ∧ s_298 288 = K9) → (4 + 1 - i4_298).toNat < fu → xW D g h0 s H locs s_298 → lv_has ls 5 [(0, .ref (h0 + 268)), (3, .int (xJ i3_122)), (4, .int (xJ i4_298))] → W p l e { frames := 3, cells := 0, slots := 0, locals := 67 } s m args below meth c H locs 0 0 Q (F0 m 298 ls []) := by
                                  intro fu
                                  induction fu with
                                  | zero => intro i4_298 s_298 H locs ls ri4_298 hF_298 q298_0 q298_1 q298_2 q298_3 q298_4 q298_5 q298_6 q298_7 v298_0 v298_1 v298_2 hm; exact absurd hm (Nat.not_lt_zero _)
                                  | succ fu ih298 =>
                                    intro i4_298 s_298 H locs ls ri4_298 hF_298 q298_0 q298_1 q298_2 q298_3 q298_4 q298_5 q298_6 q298_7 v298_0 v298_1 v298_2 hm hW hl
                                    refine x_iload hx hb hl 2 rfl dX11_market_298 ?_
                                    refine x_iconst hx hb dX11_market_300 ?_
                                    refine x_icmp_ge (tgt := 343) hx hb ri4_298 (by decide) dX11_market_301 (by decide) (fun c56 => ?_) (fun c56 => ?_)
                                    · skip
                                      refine x_iload_n hx hb hl 1 rfl dX11_market_343 rfl ?_
                                      rw [eQ]
                                      exact x_iret hx hb hr hlk hW ri3_122 ⟨hF_298, ⟨q298_1, q298_2, q298_3, q298_0, trivial⟩, by
    have z := R105.resolve_right (fun q => by omega)
    exact Or.inr ⟨by omega, by omega, v298_2.2.trans z.2.2.symm, Or.inr ⟨z.2.1, fun j a b => by rw [v298_2.1, z.2.2]; exact v122_3 j a (by omega), by rw [z.2.2, show (100 : Nat) = (i4_122).toNat from by omega]; omega, by omega⟩⟩⟩ dX11_market_344
                                    refine x_aload_n hx hb hl 0 rfl dX11_market_304 rfl ?_
                                    refine x_get (j := 4) (v := .ref (h0 + 273)) hx hb hown hT hE hW cls_X11 (Or.inl (by decide)) (so_268 h0 g _) (by decide) rfl wq1189 dX11_market_305 ?_
                                    refine x_iload hx hb hl 2 rfl dX11_market_308 ?_
                                    refine x_iald hx hb hE hW (Or.inl (by decide)) (sa_273 h0 g _) (by omega) (by decide) dX11_market_310 ?_
                                    refine x_rd hW (fun x57 ex57 rx57 => ?_)
                                    have bx57 : -1 ≤ x57 ∧ x57 ≤ 99 := by rw [ex57]; exact IMn.l q298_1 _ (by omega) (by omega)
                                    refine x_iconst hx hb dX11_market_311 ?_
                                    refine x_icmp_eq (tgt := 337) hx hb rx57 (by decide) dX11_market_312 (by decide) (fun c58 => ?_) (fun c58 => ?_)
                                    · skip
                                      refine x_iinc (lv' := [(4, .int (xJ (i4_298 + 1))), (0, .ref (h0 + 268)), (3, .int (xJ i3_122))]) hx hb hl 2 rfl dX11_market_337 (by decide) rfl (fun ls hl => ?_)
                                      refine lv_goto (tgt := 298) hx hb dX11_market_340 (by decide) ?_
                                      exact ih298 (i4_298 + 1) s_298 H locs ls (by omega) hF_298 q298_0 q298_1 q298_2 q298_3 q298_4 q298_5 q298_6 q298_7 (by omega) (by omega) (by first | exact v298_2 | (rw [es_298, xU_k _ _ _ (by omega), xU_k _ _ _ (by omega)]; exact v298_2)) (by omega) hW (lv_sub hl [1, 2, 0] rfl)
                                    refine x_aload_n hx hb hl 0 rfl dX11_market_315 rfl ?_
                                    refine x_aload_n hx hb hl 0 rfl dX11_market_316 rfl ?_
                                    refine x_get (j := 4) (v := .ref (h0 + 273)) hx hb hown hT hE hW cls_X11 (Or.inl (by decide)) (so_268 h0 g _) (by decide) rfl wq1189 dX11_market_317 ?_
                                    refine x_iload hx hb hl 2 rfl dX11_market_320 ?_
                                    refine x_iald hx hb hE hW (Or.inl (by decide)) (sa_273 h0 g _) (by omega) (by decide) dX11_market_322 ?_
                                    refine x_rd hW (fun x59 ex59 rx59 => ?_)
                                    have bx59 : -1 ≤ x59 ∧ x59 ≤ 99 := by rw [ex59]; exact IMn.l q298_1 _ (by omega) (by omega)
                                    refine x_goi (x_runV (As := [.int (xJ x59)]) hx hb hml hown hT hE hW hl.1 (Or.inl (by decide)) (so_268 h0 g _) rfl cf_X11_isGround wq1419 wq110 wq1417 (c_X11_isGroundM l D g T h0 s_298 hW.2.1 x59 rx59 (by omega) q298_1 q298_2 q298_3) ⟨rfl, rfl, ⟨by decide, by decide⟩, ⟨by decide, by decide⟩⟩ rfl rfl (Nat.le_of_ble_eq_true rfl) dX11_market_323) hW (fun x60 s61 H locs rx60 hp62 hW => ?_)
                                    obtain ⟨es61, hp62⟩ := hp62
                                    subst es61
                                    have ghp62 := hp62
                                    refine x_if_ne (tgt := 337) hx hb rx60 dX11_market_326 (by decide) (fun c63 => ?_) (fun c63 => ?_)
                                    · skip
                                      refine x_iinc (lv' := [(4, .int (xJ (i4_298 + 1))), (0, .ref (h0 + 268)), (3, .int (xJ i3_122))]) hx hb hl 2 rfl dX11_market_337 (by decide) rfl (fun ls hl => ?_)
                                      refine lv_goto (tgt := 298) hx hb dX11_market_340 (by decide) ?_
                                      exact ih298 (i4_298 + 1) s_298 H locs ls (by omega) hF_298 q298_0 q298_1 q298_2 q298_3 q298_4 q298_5 q298_6 q298_7 (by omega) (by omega) (by first | exact v298_2 | (rw [es_298, xU_k _ _ _ (by omega), xU_k _ _ _ (by omega)]; exact v298_2)) (by omega) hW (lv_sub hl [1, 2, 0] rfl)
                                    refine x_aload_n hx hb hl 0 rfl dX11_market_329 rfl ?_
                                    refine x_get (j := 4) (v := .ref (h0 + 273)) hx hb hown hT hE hW cls_X11 (Or.inl (by decide)) (so_268 h0 g _) (by decide) rfl wq1189 dX11_market_330 ?_
                                    refine x_iload hx hb hl 2 rfl dX11_market_333 ?_
                                    refine x_iconst hx hb dX11_market_335 ?_
                                    refine x_iast hx hb hE hW (by decide) (fun σ => sa_273 h0 g σ) (by omega) (by decide) (by decide) dX11_market_336 (fun H locs s64 es64 hW => ?_)
                                    have q65 : s64 269 37 = s0 269 37 := (show s64 269 37 = s_298 269 37 from by rw [es64, xU_k _ _ _ (by omega)]).trans q298_0
                                    have q66 : IMn s64 := by rw [es64]; exact IMn_273 q298_1 (by omega)
                                    have q67 : IMk s64 := by rw [es64]; exact IMk_o (by unfold suIMk; omega) q298_2
                                    have q68 : IMo s64 := by rw [es64]; exact IMo_o (by unfold suIMo; omega) q298_3
                                    have q69 : IR s64 := by rw [es64]; exact IR_o (by unfold suIR; omega) q298_4
                                    have q70 : s64 268 8 = 0 := (show s64 268 8 = s_298 268 8 from by rw [es64, xU_k _ _ _ (by omega)]).trans q298_5
                                    have q71 : s64 268 58 = 0 := (show s64 268 58 = s_298 268 58 from by rw [es64, xU_k _ _ _ (by omega)]).trans q298_6
                                    have q72 : s64 268 10 = n := (show s64 268 10 = s_298 268 10 from by rw [es64, xU_k _ _ _ (by omega)]).trans q298_7
                                    have hF73 := hF_298.put es64 (by omega)
                                    refine x_iinc (lv' := [(4, .int (xJ (i4_298 + 1))), (0, .ref (h0 + 268)), (3, .int (xJ i3_122))]) hx hb hl 2 rfl dX11_market_337 (by decide) rfl (fun ls hl => ?_)
                                    refine lv_goto (tgt := 298) hx hb dX11_market_340 (by decide) ?_
                                    exact ih298 (i4_298 + 1) s64 H locs ls (by omega) hF73 q65 q66 q67 q68 q69 q70 q71 q72 (by omega) (by omega) (by first | exact v298_2 | (rw [es64, xU_k _ _ _ (by omega), xU_k _ _ _ (by omega)]; exact v298_2)) (by omega) hW (lv_sub hl [1, 2, 0] rfl)
                                exact L298 ((4 + 1 - 0 : Int).toNat + 1) 0 s46 H locs ls (by decide) hF55 q47 q48 q49 q50 q51 q52 q53 q54 (by omega) (by omega) (by rw [es46, xU_k _ _ _ (by omega), xU_k _ _ _ (by omega)]; exact v231_2) (Nat.lt_succ_self _) hW (lv_sub hl [1, 2, 0] rfl)
                              refine x_aload_n hx hb hl 0 rfl dX11_market_238 rfl ?_
                              refine x_iload hx hb hl 2 rfl dX11_market_239 ?_
                              refine x_goi (x_runV (As := [.int (xJ i4_231)]) hx hb hml hown hT hE hW hl.1 (Or.inl (by decide)) (so_268 h0 g _) rfl cf_X11_isFelon wq1423 wq111 wq1421 (c_X11_isFelon l D g T h0 s_231 hW.2.1 i4_231 ri4_231 q231_1 q231_2 q231_3) ⟨rfl, rfl, ⟨by decide, by decide⟩, ⟨by decide, by decide⟩⟩ rfl rfl (Nat.le_of_ble_eq_true rfl) dX11_market_241) hW (fun x74 s75 H locs rx74 hp76 hW => ?_)
                              obtain ⟨es75, hp76⟩ := hp76
                              subst es75
                              have ghp76 := hp76
                              refine x_if_eq (tgt := 284) hx hb rx74 dX11_market_244 (by decide) (fun c77 => ?_) (fun c77 => ?_)
                              · skip
                                refine x_iinc (lv' := [(4, .int (xJ (i4_231 + 1))), (0, .ref (h0 + 268)), (3, .int (xJ i3_122))]) hx hb hl 2 rfl dX11_market_284 (by decide) rfl (fun ls hl => ?_)
                                refine lv_goto (tgt := 231) hx hb dX11_market_287 (by decide) ?_
                                exact ih231 (i4_231 + 1) s_231 H locs ls (by omega) hF_231 q231_0 q231_1 q231_2 q231_3 q231_4 q231_5 q231_6 q231_7 (by omega) (by omega) (by first | exact v231_2 | (rw [es_231, xU_k _ _ _ (by omega), xU_k _ _ _ (by omega)]; exact v231_2)) (by omega) hW (lv_sub hl [1, 2, 0] rfl)
                              refine x_aload_n hx hb hl 0 rfl dX11_market_247 rfl ?_
                              refine x_aload_n hx hb hl 0 rfl dX11_market_248 rfl ?_
                              refine x_get (j := 0) (v := .ref (h0 + 269)) hx hb hown hT hE hW cls_X11 (Or.inl (by decide)) (so_268 h0 g _) (by decide) rfl wq1185 dX11_market_249 ?_
                              refine x_iconst hx hb dX11_market_252 ?_
                              refine x_iload hx hb hl 2 rfl dX11_market_253 ?_
                              refine x_iadd hx hb dX11_market_255 ?_
                              refine x_iald hx hb hE hW (Or.inl (by decide)) (sa_269 h0 g _) (by omega) (by decide) dX11_market_256 ?_
                              refine x_rd hW (fun x78 ex78 rx78 => ?_)
                              have bx78 : 0 ≤ x78 ∧ x78 ≤ 99 := by rw [ex78]; exact (IMn.n1 q231_1).2.2.1 _ (by omega) (by omega)
                              refine x_goi (x_runV (As := [.int (xJ x78)]) hx hb hml hown hT hE hW hl.1 (Or.inl (by decide)) (so_268 h0 g _) rfl cf_X11_isGround wq1419 wq110 wq1417 (c_X11_isGroundM l D g T h0 s_231 hW.2.1 x78 rx78 (by omega) q231_1 q231_2 q231_3) ⟨rfl, rfl, ⟨by decide, by decide⟩, ⟨by decide, by decide⟩⟩ rfl rfl (Nat.le_of_ble_eq_true rfl) dX11_market_257) hW (fun x79 s80 H locs rx79 hp81 hW => ?_)
                              obtain ⟨es80, hp81⟩ := hp81
                              subst es80
                              have ghp81 := hp81
                              refine x_if_ne (tgt := 284) hx hb rx79 dX11_market_260 (by decide) (fun c82 => ?_) (fun c82 => ?_)
                              · skip
                                refine x_iinc (lv' := [(4, .int (xJ (i4_231 + 1))), (0, .ref (h0 + 268)), (3, .int (xJ i3_122))]) hx hb hl 2 rfl dX11_market_284 (by decide) rfl (fun ls hl => ?_)
                                refine lv_goto (tgt := 231) hx hb dX11_market_287 (by decide) ?_
                                exact ih231 (i4_231 + 1) s_231 H locs ls (by omega) hF_231 q231_0 q231_1 q231_2 q231_3 q231_4 q231_5 q231_6 q231_7 (by omega) (by omega) (by first | exact v231_2 | (rw [es_231, xU_k _ _ _ (by omega), xU_k _ _ _ (by omega)]; exact v231_2)) (by omega) hW (lv_sub hl [1, 2, 0] rfl)
                              refine x_aload_n hx hb hl 0 rfl dX11_market_263 rfl ?_
                              refine x_get (j := 0) (v := .ref (h0 + 269)) hx hb hown hT hE hW cls_X11 (Or.inl (by decide)) (so_268 h0 g _) (by decide) rfl wq1185 dX11_market_264 ?_
                              refine x_bipush hx hb dX11_market_267 (by decide) ?_
                              refine x_aload_n hx hb hl 0 rfl dX11_market_269 rfl ?_
                              refine x_get (j := 0) (v := .ref (h0 + 269)) hx hb hown hT hE hW cls_X11 (Or.inl (by decide)) (so_268 h0 g _) (by decide) rfl wq1185 dX11_market_270 ?_
                              refine x_bipush hx hb dX11_market_273 (by decide) ?_
                              refine x_iald hx hb hE hW (Or.inl (by decide)) (sa_269 h0 g _) ⟨by decide, by decide⟩ (by decide) dX11_market_275 ?_
                              refine x_rd hW (fun x83 ex83 rx83 => ?_)
                              refine x_iconst hx hb dX11_market_276 ?_
                              refine x_iload hx hb hl 2 rfl dX11_market_277 ?_
                              refine lv_ishl hx hb dX11_market_279 ?_
                              refine x_any (fun x84 rx84 => ?_)
                              refine x_iconst hx hb dX11_market_280 ?_
                              refine lv_ixor hx hb dX11_market_281 ?_
                              refine x_any (fun x85 rx85 => ?_)
                              refine lv_iand hx hb dX11_market_282 ?_
                              refine x_any (fun x86 rx86 => ?_)
                              refine x_iast hx hb hE hW (by decide) (fun σ => sa_269 h0 g σ) ⟨by decide, by decide⟩ (by decide) rx86 dX11_market_283 (fun H locs s87 es87 hW => ?_)
                              have q88 : s87 269 37 = s0 269 37 := (show s87 269 37 = s_231 269 37 from by rw [es87, xU_j _ _ (by decide)]).trans q231_0
                              have q89 : IMn s87 := by rw [es87]; exact IMn_N269 q231_1 (by omega)
                              have q90 : IMk s87 := by rw [es87]; exact IMk_o (by unfold suIMk; omega) q231_2
                              have q91 : IMo s87 := by rw [es87]; exact IMo_o (by unfold suIMo; omega) q231_3
                              have q92 : IR s87 := by rw [es87]; exact IR_o (by unfold suIR; omega) q231_4
                              have q93 : s87 268 8 = 0 := (show s87 268 8 = s_231 268 8 from by rw [es87, xU_k _ _ _ (by omega)]).trans q231_5
                              have q94 : s87 268 58 = s0 268 58 := (show s87 268 58 = s_231 268 58 from by rw [es87, xU_k _ _ _ (by omega)]).trans q231_6
                              have q95 : s87 268 10 = n := (show s87 268 10 = s_231 268 10 from by rw [es87, xU_k _ _ _ (by omega)]).trans q231_7
                              have hF96 := hF_231.put es87 (by omega)
                              refine x_iinc (lv' := [(4, .int (xJ (i4_231 + 1))), (0, .ref (h0 + 268)), (3, .int (xJ i3_122))]) hx hb hl 2 rfl dX11_market_284 (by decide) rfl (fun ls hl => ?_)
                              refine lv_goto (tgt := 231) hx hb dX11_market_287 (by decide) ?_
                              exact ih231 (i4_231 + 1) s87 H locs ls (by omega) hF96 q88 q89 q90 q91 q92 q93 q94 q95 (by omega) (by omega) (by first | exact v231_2 | (rw [es87, xU_k _ _ _ (by omega), xU_k _ _ _ (by omega)]; exact v231_2)) (by omega) hW (lv_sub hl [1, 2, 0] rfl)
                          exact L231 ((10 + 1 - 0 : Int).toNat + 1) 0 s_170 H locs ls (by decide) hF_170 q170_0 q170_1 q170_2 q170_3 q170_4 q170_5 q170_6 q170_7 (by omega) (by omega) (v170_2) (Nat.lt_succ_self _) hW (lv_sub hl [1, 2, 0] rfl)
                        refine x_aload_n hx hb hl 0 rfl dX11_market_176 rfl ?_
                        refine x_iload hx hb hl 2 rfl dX11_market_177 ?_
                        refine x_goi (x_runV (As := [.int (xJ i4_170)]) hx hb hml hown hT hE hW hl.1 (Or.inl (by decide)) (so_268 h0 g _) rfl cf_X11_isJudge wq1409 wq109 wq1407 (c_X11_isJudge l D g T h0 s_170 hW.2.1 i4_170 ri4_170 q170_1 q170_2 q170_3) ⟨rfl, rfl, ⟨by decide, by decide⟩, ⟨by decide, by decide⟩⟩ rfl rfl (Nat.le_of_ble_eq_true rfl) dX11_market_179) hW (fun x97 s98 H locs rx97 hp99 hW => ?_)
                        obtain ⟨es98, hp99⟩ := hp99
                        subst es98
                        have ghp99 := hp99
                        refine x_if_eq (tgt := 222) hx hb rx97 dX11_market_182 (by decide) (fun c100 => ?_) (fun c100 => ?_)
                        · skip
                          refine x_iinc (lv' := [(4, .int (xJ (i4_170 + 1))), (0, .ref (h0 + 268)), (3, .int (xJ i3_122))]) hx hb hl 2 rfl dX11_market_222 (by decide) rfl (fun ls hl => ?_)
                          refine lv_goto (tgt := 170) hx hb dX11_market_225 (by decide) ?_
                          exact ih170 (i4_170 + 1) s_170 H locs ls (by omega) hF_170 q170_0 q170_1 q170_2 q170_3 q170_4 q170_5 q170_6 q170_7 (by omega) (by omega) (by first | exact v170_2 | (rw [es_170, xU_k _ _ _ (by omega), xU_k _ _ _ (by omega)]; exact v170_2)) (by omega) hW (lv_sub hl [1, 2, 0] rfl)
                        refine x_aload_n hx hb hl 0 rfl dX11_market_185 rfl ?_
                        refine x_aload_n hx hb hl 0 rfl dX11_market_186 rfl ?_
                        refine x_get (j := 0) (v := .ref (h0 + 269)) hx hb hown hT hE hW cls_X11 (Or.inl (by decide)) (so_268 h0 g _) (by decide) rfl wq1185 dX11_market_187 ?_
                        refine x_iconst hx hb dX11_market_190 ?_
                        refine x_iload hx hb hl 2 rfl dX11_market_191 ?_
                        refine x_iadd hx hb dX11_market_193 ?_
                        refine x_iald hx hb hE hW (Or.inl (by decide)) (sa_269 h0 g _) (by omega) (by decide) dX11_market_194 ?_
                        refine x_rd hW (fun x101 ex101 rx101 => ?_)
                        have bx101 : 0 ≤ x101 ∧ x101 ≤ 99 := by rw [ex101]; exact (IMn.n1 q170_1).1 _ (by omega) (by omega)
                        refine x_goi (x_runV (As := [.int (xJ x101)]) hx hb hml hown hT hE hW hl.1 (Or.inl (by decide)) (so_268 h0 g _) rfl cf_X11_isGround wq1419 wq110 wq1417 (c_X11_isGroundM l D g T h0 s_170 hW.2.1 x101 rx101 (by omega) q170_1 q170_2 q170_3) ⟨rfl, rfl, ⟨by decide, by decide⟩, ⟨by decide, by decide⟩⟩ rfl rfl (Nat.le_of_ble_eq_true rfl) dX11_market_195) hW (fun x102 s103 H locs rx102 hp104 hW => ?_)
                        obtain ⟨es103, hp104⟩ := hp104
                        subst es103
                        have ghp104 := hp104
                        refine x_if_ne (tgt := 222) hx hb rx102 dX11_market_198 (by decide) (fun c105 => ?_) (fun c105 => ?_)
                        · skip
                          refine x_iinc (lv' := [(4, .int (xJ (i4_170 + 1))), (0, .ref (h0 + 268)), (3, .int (xJ i3_122))]) hx hb hl 2 rfl dX11_market_222 (by decide) rfl (fun ls hl => ?_)
                          refine lv_goto (tgt := 170) hx hb dX11_market_225 (by decide) ?_
                          exact ih170 (i4_170 + 1) s_170 H locs ls (by omega) hF_170 q170_0 q170_1 q170_2 q170_3 q170_4 q170_5 q170_6 q170_7 (by omega) (by omega) (by first | exact v170_2 | (rw [es_170, xU_k _ _ _ (by omega), xU_k _ _ _ (by omega)]; exact v170_2)) (by omega) hW (lv_sub hl [1, 2, 0] rfl)
                        refine x_aload_n hx hb hl 0 rfl dX11_market_201 rfl ?_
                        refine x_get (j := 0) (v := .ref (h0 + 269)) hx hb hown hT hE hW cls_X11 (Or.inl (by decide)) (so_268 h0 g _) (by decide) rfl wq1185 dX11_market_202 ?_
                        refine x_bipush hx hb dX11_market_205 (by decide) ?_
                        refine x_aload_n hx hb hl 0 rfl dX11_market_207 rfl ?_
                        refine x_get (j := 0) (v := .ref (h0 + 269)) hx hb hown hT hE hW cls_X11 (Or.inl (by decide)) (so_268 h0 g _) (by decide) rfl wq1185 dX11_market_208 ?_
                        refine x_bipush hx hb dX11_market_211 (by decide) ?_
                        refine x_iald hx hb hE hW (Or.inl (by decide)) (sa_269 h0 g _) ⟨by decide, by decide⟩ (by decide) dX11_market_213 ?_
                        refine x_rd hW (fun x106 ex106 rx106 => ?_)
                        refine x_iconst hx hb dX11_market_214 ?_
                        refine x_iload hx hb hl 2 rfl dX11_market_215 ?_
                        refine lv_ishl hx hb dX11_market_217 ?_
                        refine x_any (fun x107 rx107 => ?_)
                        refine x_iconst hx hb dX11_market_218 ?_
                        refine lv_ixor hx hb dX11_market_219 ?_
                        refine x_any (fun x108 rx108 => ?_)
                        refine lv_iand hx hb dX11_market_220 ?_
                        refine x_any (fun x109 rx109 => ?_)
                        refine x_iast hx hb hE hW (by decide) (fun σ => sa_269 h0 g σ) ⟨by decide, by decide⟩ (by decide) rx109 dX11_market_221 (fun H locs s110 es110 hW => ?_)
                        have q111 : s110 269 37 = s0 269 37 := (show s110 269 37 = s_170 269 37 from by rw [es110, xU_j _ _ (by decide)]).trans q170_0
                        have q112 : IMn s110 := by rw [es110]; exact IMn_N269 q170_1 (by omega)
                        have q113 : IMk s110 := by rw [es110]; exact IMk_o (by unfold suIMk; omega) q170_2
                        have q114 : IMo s110 := by rw [es110]; exact IMo_o (by unfold suIMo; omega) q170_3
                        have q115 : IR s110 := by rw [es110]; exact IR_o (by unfold suIR; omega) q170_4
                        have q116 : s110 268 8 = 0 := (show s110 268 8 = s_170 268 8 from by rw [es110, xU_k _ _ _ (by omega)]).trans q170_5
                        have q117 : s110 268 58 = s0 268 58 := (show s110 268 58 = s_170 268 58 from by rw [es110, xU_k _ _ _ (by omega)]).trans q170_6
                        have q118 : s110 268 10 = n := (show s110 268 10 = s_170 268 10 from by rw [es110, xU_k _ _ _ (by omega)]).trans q170_7
                        have hF119 := hF_170.put es110 (by omega)
                        refine x_iinc (lv' := [(4, .int (xJ (i4_170 + 1))), (0, .ref (h0 + 268)), (3, .int (xJ i3_122))]) hx hb hl 2 rfl dX11_market_222 (by decide) rfl (fun ls hl => ?_)
                        refine lv_goto (tgt := 170) hx hb dX11_market_225 (by decide) ?_
                        exact ih170 (i4_170 + 1) s110 H locs ls (by omega) hF119 q111 q112 q113 q114 q115 q116 q117 q118 (by omega) (by omega) (by first | exact v170_2 | (rw [es110, xU_k _ _ _ (by omega), xU_k _ _ _ (by omega)]; exact v170_2)) (by omega) hW (lv_sub hl [1, 2, 0] rfl)
                    exact L170 ((2 + 1 - 0 : Int).toNat + 1) 0 s_122 H locs ls (by decide) hF_122 q122_0 q122_1 q122_2 q122_3 q122_4 q122_5 q122_6 q122_7 (by omega) (by omega) (⟨rfl, v122_2⟩) (Nat.lt_succ_self _) hW (lv_sub hl [1, 2, 0] rfl)
                  refine x_aload_n hx hb hl 0 rfl dX11_market_129 rfl ?_
                  refine x_get (j := 3) (v := .ref (h0 + 272)) hx hb hown hT hE hW cls_X11 (Or.inl (by decide)) (so_268 h0 g _) (by decide) rfl wq1188 dX11_market_130 ?_
                  refine x_iload hx hb hl 2 rfl dX11_market_133 ?_
                  refine x_aload_n hx hb hl 0 rfl dX11_market_135 rfl ?_
                  refine x_get (j := 29) (v := .ref (h0 + 288)) hx hb hown hT hE hW cls_X11 (Or.inl (by decide)) (so_268 h0 g _) (by decide) rfl wq1214 dX11_market_136 ?_
                  refine x_iload hx hb hl 2 rfl dX11_market_139 ?_
                  refine x_iald hx hb hE hW (Or.inl (by decide)) (sa_288 h0 g _) (by omega) (by decide) dX11_market_141 ?_
                  refine x_rd hW (fun x120 ex120 rx120 => ?_)
                  have R141 := ex120
                  refine x_iast hx hb hE hW (by decide) (fun σ => sa_272 h0 g σ) (by omega) (by decide) rx120 dX11_market_142 (fun H locs s121 es121 hW => ?_)
                  have q122 : s121 269 37 = s0 269 37 := (show s121 269 37 = s_122 269 37 from by rw [es121, xU_k _ _ _ (by omega)]).trans q122_0
                  have q123 : IMn s121 := by rw [es121]; exact IMn_o (by unfold suIMn; omega) q122_1
                  have q124 : IMk s121 := by rw [es121]; exact IMk_o (by unfold suIMk; omega) q122_2
                  have q125 : IMo s121 := by rw [es121]; exact IMo_o (by unfold suIMo; omega) q122_3
                  have q126 : IR s121 := by rw [es121]; exact IR_o (by unfold suIR; omega) q122_4
                  have q127 : s121 268 8 = 0 := (show s121 268 8 = s_122 268 8 from by rw [es121, xU_k _ _ _ (by omega)]).trans q122_5
                  have q128 : s121 268 58 = s0 268 58 := (show s121 268 58 = s_122 268 58 from by rw [es121, xU_k _ _ _ (by omega)]).trans q122_6
                  have q129 : s121 268 10 = n := (show s121 268 10 = s_122 268 10 from by rw [es121, xU_k _ _ _ (by omega)]).trans q122_7
                  have hF130 := hF_122.put es121 (by omega)
                  have E142 := es121
                  refine x_iload_n hx hb hl 1 rfl dX11_market_143 rfl ?_
                  refine x_aload_n hx hb hl 0 rfl dX11_market_144 rfl ?_
                  refine x_get (j := 3) (v := .ref (h0 + 272)) hx hb hown hT hE hW cls_X11 (Or.inl (by decide)) (so_268 h0 g _) (by decide) rfl wq1188 dX11_market_145 ?_
                  refine x_iload hx hb hl 2 rfl dX11_market_148 ?_
                  refine x_iald hx hb hE hW (Or.inl (by decide)) (sa_272 h0 g _) (by omega) (by decide) dX11_market_150 ?_
                  refine x_rd hW (fun x131 ex131 rx131 => ?_)
                  have U150 : x131 = K9 i4_122 := by rw [ex131, E142, xU_s, R141, v122_2]
                  refine x_if_ne (tgt := 158) hx hb rx131 dX11_market_151 (by decide) (fun c132 => ?_) (fun c132 => ?_)
                  · skip
                    refine x_iconst hx hb dX11_market_158 ?_
                    refine x_iadd hx hb dX11_market_159 ?_
                    refine x_nm (fun x133 ex133 => ?_)
                    refine lv_istore_n (lv' := [(3, .int (xJ x133)), (0, .ref (h0 + 268)), (4, .int (xJ i4_122))]) hx hb dX11_market_160 rfl hl (by decide) rfl (fun ls hl => ?_)
                    refine x_iinc (lv' := [(4, .int (xJ (i4_122 + 1))), (3, .int (xJ x133)), (0, .ref (h0 + 268))]) hx hb hl 2 rfl dX11_market_161 (by decide) rfl (fun ls hl => ?_)
                    refine lv_goto (tgt := 122) hx hb dX11_market_164 (by decide) ?_
                    exact ih122 x133 (i4_122 + 1) s121 H locs ls (by omega) (by omega) hF130 q122 q123 q124 q125 q126 q127 q128 q129 (by omega) (by first | (rw [zct_n (by omega) (by omega)]; omega) | (rw [zct_y (by omega) (by omega)]; omega)) (by rw [E142, xU_k _ _ _ (by omega)]; exact v122_2) (fun q q1 q2 => (Classical.em (q < i4_122)).elim (fun h => by rw [E142, xU_j _ _ (by omega)]; exact v122_3 q q1 h) (fun h => by rw [show q = i4_122 from by omega, E142, xU_s, R141, v122_2])) (by omega) (by omega) hW (lv_sub hl [2, 1, 0] rfl)
                  refine x_iconst hx hb dX11_market_154 ?_
                  refine lv_goto (tgt := 159) hx hb dX11_market_155 (by decide) ?_
                  refine x_iadd hx hb dX11_market_159 ?_
                  refine x_nm (fun x134 ex134 => ?_)
                  refine lv_istore_n (lv' := [(3, .int (xJ x134)), (0, .ref (h0 + 268)), (4, .int (xJ i4_122))]) hx hb dX11_market_160 rfl hl (by decide) rfl (fun ls hl => ?_)
                  refine x_iinc (lv' := [(4, .int (xJ (i4_122 + 1))), (3, .int (xJ x134)), (0, .ref (h0 + 268))]) hx hb hl 2 rfl dX11_market_161 (by decide) rfl (fun ls hl => ?_)
                  refine lv_goto (tgt := 122) hx hb dX11_market_164 (by decide) ?_
                  exact ih122 x134 (i4_122 + 1) s121 H locs ls (by omega) (by omega) hF130 q122 q123 q124 q125 q126 q127 q128 q129 (by omega) (by first | (rw [zct_n (by omega) (by omega)]; omega) | (rw [zct_y (by omega) (by omega)]; omega)) (by rw [E142, xU_k _ _ _ (by omega)]; exact v122_2) (fun q q1 q2 => (Classical.em (q < i4_122)).elim (fun h => by rw [E142, xU_j _ _ (by omega)]; exact v122_3 q q1 h) (fun h => by rw [show q = i4_122 from by omega, E142, xU_s, R141, v122_2])) (by omega) (by omega) hW (lv_sub hl [2, 1, 0] rfl)
              exact L122 ((100 - 0 : Int).toNat + 1) 0 0 s32 H locs ls (by decide) (by decide) hF41 q33 q34 q35 q36 q37 q38 q39 q40 (by omega) (rfl) (eK9.symm) (fun q q1 q2 => absurd q2 (by omega)) (by omega) (Nat.lt_succ_self _) hW (lv_sub hl [2, 1, 0] rfl)
            refine x_aload_n hx hb hl 0 rfl dX11_market_112 rfl ?_
            refine x_get (j := 11) (v := .int (xJ (s32 268 11))) hx hb hown hT hE hW cls_X11 (Or.inl (by decide)) (so_268 h0 g _) (by decide) rfl wq1196 dX11_market_113 ?_
            refine x_rd hW (fun x135 ex135 rx135 => ?_)
            rw [eQ]
            exact x_iret hx hb hr hlk hW rx135 ⟨hF41, ⟨q34, q35, q36, q33, trivial⟩, by
    have z := R105.resolve_left (fun q => by omega)
    exact Or.inr ⟨by omega, by omega, eK9.symm.trans z.2.2.2.symm, Or.inl ⟨z.2.1, by omega, Q105, by omega⟩⟩⟩ dX11_market_116
          refine x_if_eq (tgt := 103) hx hb ri2_39 dX11_market_79 (by decide) (fun c136 => ?_) (fun c136 => ?_)
          · skip
            exact J103 i2_39 s_39 H locs ls ri2_39 hF_39 q39_0 q39_1 q39_2 q39_3 q39_4 q39_5 q39_6 q39_7 (by first | exact Or.inr (v39_1.resolve_left (fun q => by omega)) | exact B86 (by omega) (by omega) | exact B99) (by first | exact v39_2 | exact Q99) hW (lv_sub hl [0, 1] rfl)
          refine x_aload_n hx hb hl 0 rfl dX11_market_82 rfl ?_
          refine x_get (j := 9) (v := .int (xJ (s_39 268 9))) hx hb hown hT hE hW cls_X11 (Or.inl (by decide)) (so_268 h0 g _) (by decide) rfl wq1194 dX11_market_83 ?_
          refine x_rd hW (fun x137 ex137 rx137 => ?_)
          have bx137 : 0 ≤ x137 ∧ x137 ≤ s_39 268 10 ∧ s_39 268 10 ≤ 240 := by rw [ex137]; exact q39_4
          have B86 : i2_39 = 1 → n ≤ x137 → (i2_39 = 1 ∧ (zMk (xm8 (s0 276)) n (s0 288)).1 = 0 ∧ (zMk (xm8 (s0 276)) n (s0 288)).2.2 = s_39 288) ∨ (i2_39 = 0 ∧ (zMk (xm8 (s0 276)) n (s0 288)).1 ≠ 0 ∧ s_39 268 11 = (zMk (xm8 (s0 276)) n (s0 288)).1 ∧ (zMk (xm8 (s0 276)) n (s0 288)).2.2 = s_39 288) := fun h1 h2 => by
            have z := (v39_1.resolve_right (fun q => by omega)).2.trans (zM_end (by omega))
            rw [if_neg (by omega)] at z
            rw [z]
            exact Or.inl ⟨h1, rfl, rfl⟩
          refine x_aload_n hx hb hl 0 rfl dX11_market_86 rfl ?_
          refine x_get (j := 10) (v := .int (xJ (s_39 268 10))) hx hb hown hT hE hW cls_X11 (Or.inl (by decide)) (so_268 h0 g _) (by decide) rfl wq1195 dX11_market_87 ?_
          refine x_rd hW (fun x138 ex138 rx138 => ?_)
          have fx138 : x138 = n := ex138.trans q39_7
          refine x_icmp_ge (tgt := 103) hx hb rx137 rx138 dX11_market_90 (by decide) (fun c139 => ?_) (fun c139 => ?_)
          · skip
            exact J103 i2_39 s_39 H locs ls ri2_39 hF_39 q39_0 q39_1 q39_2 q39_3 q39_4 q39_5 q39_6 q39_7 (by first | exact Or.inr (v39_1.resolve_left (fun q => by omega)) | exact B86 (by omega) (by omega) | exact B99) (by first | exact v39_2 | exact Q99) hW (lv_sub hl [0, 1] rfl)
          refine x_aload_n hx hb hl 0 rfl dX11_market_93 rfl ?_
          refine x_iconst hx hb dX11_market_94 ?_
          refine x_aload_n hx hb hl 0 rfl dX11_market_95 rfl ?_
          refine x_get (j := 9) (v := .int (xJ (s_39 268 9))) hx hb hown hT hE hW cls_X11 (Or.inl (by decide)) (so_268 h0 g _) (by decide) rfl wq1194 dX11_market_96 ?_
          refine x_rd hW (fun x140 ex140 rx140 => ?_)
          have bx140 : 0 ≤ x140 ∧ x140 ≤ s_39 268 10 ∧ s_39 268 10 ≤ 240 := by rw [ex140]; exact q39_4
          refine x_goi (x_runV (As := [.int (xJ 1), .int (xJ x140)]) hx hb hml hown hT hE hW hl.1 (Or.inl (by decide)) (so_268 h0 g _) rfl cf_X11_wrongAt wq1401 wq107 wq1399 (c_X11_wrongAtM l D g T h0 s_39 hW.2.1 1 (by decide) x140 rx140 (by omega) q39_1 q39_2 q39_3 q39_4) ⟨rfl, rfl, ⟨by decide, by decide⟩, ⟨by decide, by decide⟩⟩ rfl rfl (Nat.le_of_ble_eq_true rfl) dX11_market_99) hW (fun x141 s142 H locs rx141 hp143 hW => ?_)
          obtain ⟨fs142, hp143⟩ := hp143
          have hF144 := hF_39.call fs142 (fun k h => by omega)
          have q145 : s142 269 37 = s0 269 37 := (congrFun (fs142 _ (by omega)) _).trans q39_0
          have ghp143 := hp143.2
          have Q99 : s142 272 = s0 272 := (fs142 272 (by omega)).trans v39_2
          have B99 : (x141 = 1 ∧ (zMk (xm8 (s0 276)) n (s0 288)).1 = 0 ∧ (zMk (xm8 (s0 276)) n (s0 288)).2.2 = s142 288) ∨ (x141 = 0 ∧ (zMk (xm8 (s0 276)) n (s0 288)).1 ≠ 0 ∧ s142 268 11 = (zMk (xm8 (s0 276)) n (s0 288)).1 ∧ (zMk (xm8 (s0 276)) n (s0 288)).2.2 = s142 288) := by
            have z := (v39_1.resolve_right (fun q => by omega)).2.trans (zM_end (by omega))
            rw [if_pos (by omega)] at z
            rw [z]
            exact Or.inr ⟨by omega, (by show (-1000 - _ : Int) ≠ 0; omega), (by show _ = (-1000 - _ : Int); omega), (fs142 288 (by omega)).symm⟩
          refine lv_istore_n (lv' := [(2, .int (xJ x141)), (0, .ref (h0 + 268))]) hx hb dX11_market_102 rfl hl (by decide) rfl (fun ls hl => ?_)
          exact J103 x141 s142 H locs ls rx141 hF144 q145 hp143.1.1 hp143.1.2.1 hp143.1.2.2.1 hp143.1.2.2.2.1 (hp143.1.2.2.2.2.1.trans q39_5) (hp143.1.2.2.2.2.2.1.trans q39_6) (hp143.1.2.2.2.2.2.2.1.trans q39_7) (by first | exact Or.inr (v39_1.resolve_left (fun q => by omega)) | exact B86 (by omega) (by omega) | exact B99) (by first | exact v39_2 | exact Q99) hW (lv_sub hl [1, 0] rfl)
        refine x_icmp_ge (tgt := 78) hx hb ri3_39 (by decide) dX11_market_42 (by decide) (fun c146 => ?_) (fun c146 => ?_)
        · skip
          exact J78 ls (by omega)  (lv_sub hl [0, 1] rfl)
        refine x_iload_n hx hb hl 1 rfl dX11_market_45 rfl ?_
        refine x_if_eq (tgt := 78) hx hb ri2_39 dX11_market_46 (by decide) (fun c147 => ?_) (fun c147 => ?_)
        · skip
          exact J78 ls (by omega)  (lv_sub hl [0, 1] rfl)
        refine x_aload_n hx hb hl 0 rfl dX11_market_49 rfl ?_
        refine x_bipush hx hb dX11_market_50 (by decide) ?_
        refine x_goi (x_runV (As := [.int (xJ 47)]) hx hb hml hown hT hE hW hl.1 (Or.inl (by decide)) (so_268 h0 g _) rfl cf_X11_takes wq1405 wq108 wq1403 (c_X11_takesM l D g T h0 s_39 hW.2.1 47 (by decide) (by omega) q39_1 q39_2 q39_3 q39_4) ⟨rfl, rfl, ⟨by decide, by decide⟩, ⟨by decide, by decide⟩⟩ rfl rfl (Nat.le_of_ble_eq_true rfl) dX11_market_52) hW (fun x148 s149 H locs rx148 hp150 hW => ?_)
        obtain ⟨fs149, hp150⟩ := hp150
        have hF151 := hF_39.call fs149 (fun k h => by omega)
        have q152 : s149 269 37 = s0 269 37 := (congrFun (fs149 _ (by omega)) _).trans q39_0
        have ghp150 := hp150.2
        have W52 := ghp150
        have C52 : zhC s_39 = zch (xm8 (s0 276)) n (s_39 268 9) := by
          have z := zhC_ch s_39
          rw [hF_39 276 (by omega), show s_39 268 10 = n from by omega] at z
          exact z
        have Q52 : s149 288 = s_39 288 ∧ s149 272 = s0 272 := ⟨fs149 288 (by omega), (fs149 272 (by omega)).trans v39_2⟩
        have G52 : s149 276 = s0 276 := hF151 276 (by omega)
        have N52 : s149 268 10 = n := by omega
        have P52 : x148 ≠ 0 → s149 268 9 = s_39 268 9 + 1 := fun h => by omega
        have B52 : x148 = 0 → ((0 : Int) = 1 ∧ zMk (xm8 (s0 276)) n (s0 288) = zM (xm8 (s0 276)) n (10 - (i3_39 + 1)).toNat (i3_39 + 1) (s149 268 9) (s149 288)) ∨ ((0 : Int) = 0 ∧ (zMk (xm8 (s0 276)) n (s0 288)).1 ≠ 0 ∧ s149 268 11 = (zMk (xm8 (s0 276)) n (s0 288)).1 ∧ (zMk (xm8 (s0 276)) n (s0 288)).2.2 = s149 288) := fun hv => by
          have z := (v39_1.resolve_right (fun q => by omega)).2.trans (zM_no (by omega) (by omega))
          rw [z]
          exact Or.inr ⟨rfl, (by show (-1000 - _ : Int) ≠ 0; omega), (by show _ = (-1000 - _ : Int); omega), Q52.1.symm⟩
        refine x_if_eq (tgt := 70) hx hb rx148 dX11_market_55 (by decide) (fun c153 => ?_) (fun c153 => ?_)
        · skip
          refine x_iconst hx hb dX11_market_70 ?_
          refine lv_istore_n (lv' := [(2, .int (xJ 0)), (0, .ref (h0 + 268)), (3, .int (xJ i3_39))]) hx hb dX11_market_71 rfl hl (by decide) rfl (fun ls hl => ?_)
          refine x_iinc (lv' := [(3, .int (xJ (i3_39 + 1))), (2, .int (xJ 0)), (0, .ref (h0 + 268))]) hx hb hl 2 rfl dX11_market_72 (by decide) rfl (fun ls hl => ?_)
          refine lv_goto (tgt := 39) hx hb dX11_market_75 (by decide) ?_
          exact ih39 0 (i3_39 + 1) s149 H locs ls (by decide) (by omega) hF151 q152 hp150.1.1 hp150.1.2.1 hp150.1.2.2.1 hp150.1.2.2.2.1 (hp150.1.2.2.2.2.1.trans q39_5) (hp150.1.2.2.2.2.2.1.trans q39_6) (hp150.1.2.2.2.2.2.2.1.trans q39_7) (by omega) (by first | exact Or.inl ⟨rfl, (v39_1.resolve_right (fun q => by omega)).2.trans (zM_row_ok (by omega) (by omega) (D60.resolve_right (fun q => by omega)).2 (by omega) rfl rfl rfl)⟩ | exact B60 (by omega) (by omega) | exact B52 (by omega)) (by first | exact K60 | exact Q52.2) (by omega) hW (lv_sub hl [2, 1, 0] rfl)
        refine x_aload_n hx hb hl 0 rfl dX11_market_58 rfl ?_
        refine x_iload_n hx hb hl 2 rfl dX11_market_59 rfl ?_
        refine x_goi (x_runV (As := [.int (xJ i3_39)]) hx hb hml hown hT hE hW hl.1 (Or.inl (by decide)) (so_268 h0 g _) rfl cf_X11_readsRow wq1387 wq105 wq1385 (c_X11_readsRowM l D g T h0 s149 hW.2.1 i3_39 ri3_39 (by omega) hp150.1.1 hp150.1.2.1 hp150.1.2.2.1 hp150.1.2.2.2.1) ⟨rfl, rfl, ⟨by decide, by decide⟩, ⟨by decide, by decide⟩⟩ rfl rfl (Nat.le_of_ble_eq_true rfl) dX11_market_60) hW (fun x154 s155 H locs rx154 hp156 hW => ?_)
        obtain ⟨fs155, hp156⟩ := hp156
        have hF157 := hF151.call fs155 (fun k h => by omega)
        have q158 : s155 269 37 = s0 269 37 := (congrFun (fs155 _ (by omega)) _).trans q152
        have ghp156 := hp156.2
        have R60 := ghp156
        rw [G52, N52, Q52.1, P52 (by omega)] at R60
        have D60 := R60.cs
        have K60 : s155 272 = s0 272 := (fs155 272 (by omega)).trans Q52.2
        have B60 : x154 = 0 → 0 < 10 - i3_39 → ((0 : Int) = 1 ∧ zMk (xm8 (s0 276)) n (s0 288) = zM (xm8 (s0 276)) n (10 - (i3_39 + 1)).toNat (i3_39 + 1) (s155 268 9) (s155 288)) ∨ ((0 : Int) = 0 ∧ (zMk (xm8 (s0 276)) n (s0 288)).1 ≠ 0 ∧ s155 268 11 = (zMk (xm8 (s0 276)) n (s0 288)).1 ∧ (zMk (xm8 (s0 276)) n (s0 288)).2.2 = s155 288) := fun hv _ => by
          obtain ⟨d1, d2, d3, d4⟩ := D60.resolve_left (fun q => by omega)
          have z := (v39_1.resolve_right (fun q => by omega)).2.trans (zM_row_bad (by omega) (by omega) d2)
          rw [z]
          exact Or.inr ⟨rfl, d2, d3, d4⟩
        refine x_if_eq (tgt := 70) hx hb rx154 dX11_market_63 (by decide) (fun c159 => ?_) (fun c159 => ?_)
        · skip
          refine x_iconst hx hb dX11_market_70 ?_
          refine lv_istore_n (lv' := [(2, .int (xJ 0)), (0, .ref (h0 + 268)), (3, .int (xJ i3_39))]) hx hb dX11_market_71 rfl hl (by decide) rfl (fun ls hl => ?_)
          refine x_iinc (lv' := [(3, .int (xJ (i3_39 + 1))), (2, .int (xJ 0)), (0, .ref (h0 + 268))]) hx hb hl 2 rfl dX11_market_72 (by decide) rfl (fun ls hl => ?_)
          refine lv_goto (tgt := 39) hx hb dX11_market_75 (by decide) ?_
          exact ih39 0 (i3_39 + 1) s155 H locs ls (by decide) (by omega) hF157 q158 hp156.1.1 hp156.1.2.1 hp156.1.2.2.1 hp156.1.2.2.2.1 (hp156.1.2.2.2.2.1.trans (hp150.1.2.2.2.2.1.trans q39_5)) (hp156.1.2.2.2.2.2.1.trans (hp150.1.2.2.2.2.2.1.trans q39_6)) (hp156.1.2.2.2.2.2.2.1.trans (hp150.1.2.2.2.2.2.2.1.trans q39_7)) (by omega) (by first | exact Or.inl ⟨rfl, (v39_1.resolve_right (fun q => by omega)).2.trans (zM_row_ok (by omega) (by omega) (D60.resolve_right (fun q => by omega)).2 (by omega) rfl rfl rfl)⟩ | exact B60 (by omega) (by omega) | exact B52 (by omega)) (by first | exact K60 | exact Q52.2) (by omega) hW (lv_sub hl [2, 1, 0] rfl)
        refine x_iconst hx hb dX11_market_66 ?_
        refine lv_goto (tgt := 71) hx hb dX11_market_67 (by decide) ?_
        refine lv_istore_n (lv' := [(2, .int (xJ 1)), (0, .ref (h0 + 268)), (3, .int (xJ i3_39))]) hx hb dX11_market_71 rfl hl (by decide) rfl (fun ls hl => ?_)
        refine x_iinc (lv' := [(3, .int (xJ (i3_39 + 1))), (2, .int (xJ 1)), (0, .ref (h0 + 268))]) hx hb hl 2 rfl dX11_market_72 (by decide) rfl (fun ls hl => ?_)
        refine lv_goto (tgt := 39) hx hb dX11_market_75 (by decide) ?_
        exact ih39 1 (i3_39 + 1) s155 H locs ls (by decide) (by omega) hF157 q158 hp156.1.1 hp156.1.2.1 hp156.1.2.2.1 hp156.1.2.2.2.1 (hp156.1.2.2.2.2.1.trans (hp150.1.2.2.2.2.1.trans q39_5)) (hp156.1.2.2.2.2.2.1.trans (hp150.1.2.2.2.2.2.1.trans q39_6)) (hp156.1.2.2.2.2.2.2.1.trans (hp150.1.2.2.2.2.2.2.1.trans q39_7)) (by omega) (by first | exact Or.inl ⟨rfl, (v39_1.resolve_right (fun q => by omega)).2.trans (zM_row_ok (by omega) (by omega) (D60.resolve_right (fun q => by omega)).2 (by omega) rfl rfl rfl)⟩ | exact B60 (by omega) (by omega) | exact B52 (by omega)) (by first | exact K60 | exact Q52.2) (by omega) hW (lv_sub hl [2, 1, 0] rfl)
    exact L39 ((10 - 1 : Int).toNat + 1) x27 1 s28 H locs ls rx27 (by decide) hF30 q31 hp29.1.1 hp29.1.2.1 hp29.1.2.2.1 hp29.1.2.2.2.1 (hp29.1.2.2.2.2.1.trans q21) (hp29.1.2.2.2.2.2.1.trans q22) (hp29.1.2.2.2.2.2.2.1.trans q24) (by omega) (B33) (Q33) (Nat.lt_succ_self _) hW (lv_sub hl [2, 1, 0] rfl)
  refine x_iconst hx hb dX11_market_19 ?_
  rw [eQ]
  exact x_iret hx hb hr hlk hW (by decide) ⟨hF, ⟨p0, p1, p2, k269_37, trivial⟩, Or.inl ⟨by omega, by omega, by omega, rfl, rfl, rfl⟩⟩ dX11_market_20

