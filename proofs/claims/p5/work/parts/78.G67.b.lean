set_option maxHeartbeats 4000000 in
set_option maxRecDepth 100000 in
theorem c_X11_marketJ (l : Launch) (D : va_G) (g : xG) (T : Nat × Nat × Nat) (h0 : Nat) (s0 : xS) (hσ : xRR s0) (n : Int) (rn : xR n) (hB : 0 ≤ s0 269 34 ∧ s0 269 34 ≤ 3) (p0 : IMn s0) (p1 : IMk s0) (p2 : IMo s0) : Met l yX11_market (xws yX11_market cX11_market 5 (some .int)) { frames := 3, cells := 0, slots := 0, locals := 67 } (xP [.ref (h0 + 268), .int (xJ n)] D g T h0 s0) (xQi D g h0 (fun r τ => xFr (fun k => k = 268 ∨ k = 269 ∨ k = 272 ∨ k = 273 ∨ k = 288) s0 τ ∧ (((IMn τ) ∧ (IMk τ) ∧ (IMo τ) ∧ (τ 269 37 = s0 269 37) ∧ (τ 269 0 = s0 269 0) ∧ (τ 269 1 = s0 269 1) ∧ (τ 269 2 = s0 269 2) ∧ (τ 269 3 = s0 269 3) ∧ True) ∧ (((n < 1 ∨ 140 < n ∨ s0 268 8 < n) ∧ τ 268 8 = s0 268 8 ∧ r = -1 ∧ τ 288 = s0 288 ∧ τ 272 = s0 272 ∧ τ 268 58 = s0 268 58 ∧ τ 269 34 = s0 269 34) ∨ (¬ (n < 1 ∨ 140 < n ∨ s0 268 8 < n) ∧ τ 268 8 = 0 ∧ τ 288 = (zMk (xm8 (s0 276)) n (s0 288)).2.2 ∧ (((zMk (xm8 (s0 276)) n (s0 288)).1 ≠ 0 ∧ r = (zMk (xm8 (s0 276)) n (s0 288)).1 ∧ τ 272 = s0 272 ∧ τ 268 58 = s0 268 58 ∧ τ 269 34 = s0 269 34) ∨ ((zMk (xm8 (s0 276)) n (s0 288)).1 = 0 ∧ (∀ j, 0 ≤ j → j < 100 → τ 272 j = (zMk (xm8 (s0 276)) n (s0 288)).2.2 j) ∧ r = 100 - zct (zMk (xm8 (s0 276)) n (s0 288)).2.2 0 100 ∧ τ 268 58 = 0 ∧ (0 ≤ τ 269 34 ∧ τ 269 34 ≤ 3) ∧ ∀ q : Int, 0 ≤ q → q < 2 → (xsh (τ 269 34) q % 2 = 1 ∧ xsh (s0 269 34) q % 2 = 1 ∧ (τ 272 (s0 269 q) = 0 ∨ τ 272 (s0 269 q) = 2)) ∨ (xsh (τ 269 34) q % 2 = 0 ∧ ¬ (xsh (s0 269 34) q % 2 = 1 ∧ (τ 272 (s0 269 q) = 0 ∨ τ 272 (s0 269 q) = 2)))))))))) 0 0 (xA h0) := by
  refine x_met hσ (by decide) (Nat.le_of_ble_eq_true rfl) ?_
  intro p e s m args below meth c hx hb hr hml hown hT hlk hnm hE hW ls hl
  have hl : lv_has ls 5 [(0, .ref (h0 + 268)), (1, .int (xJ n))] := hl
  obtain ⟨Q, eQ⟩ : ∃ Q, Q = MQ below (xQi D g h0 (fun r τ => xFr (fun k => k = 268 ∨ k = 269 ∨ k = 272 ∨ k = 273 ∨ k = 288) s0 τ ∧ (((IMn τ) ∧ (IMk τ) ∧ (IMo τ) ∧ (τ 269 37 = s0 269 37) ∧ (τ 269 0 = s0 269 0) ∧ (τ 269 1 = s0 269 1) ∧ (τ 269 2 = s0 269 2) ∧ (τ 269 3 = s0 269 3) ∧ True) ∧ (((n < 1 ∨ 140 < n ∨ s0 268 8 < n) ∧ τ 268 8 = s0 268 8 ∧ r = -1 ∧ τ 288 = s0 288 ∧ τ 272 = s0 272 ∧ τ 268 58 = s0 268 58 ∧ τ 269 34 = s0 269 34) ∨ (¬ (n < 1 ∨ 140 < n ∨ s0 268 8 < n) ∧ τ 268 8 = 0 ∧ τ 288 = (zMk (xm8 (s0 276)) n (s0 288)).2.2 ∧ (((zMk (xm8 (s0 276)) n (s0 288)).1 ≠ 0 ∧ r = (zMk (xm8 (s0 276)) n (s0 288)).1 ∧ τ 272 = s0 272 ∧ τ 268 58 = s0 268 58 ∧ τ 269 34 = s0 269 34) ∨ ((zMk (xm8 (s0 276)) n (s0 288)).1 = 0 ∧ (∀ j, 0 ≤ j → j < 100 → τ 272 j = (zMk (xm8 (s0 276)) n (s0 288)).2.2 j) ∧ r = 100 - zct (zMk (xm8 (s0 276)) n (s0 288)).2.2 0 100 ∧ τ 268 58 = 0 ∧ (0 ≤ τ 269 34 ∧ τ 269 34 ≤ 3) ∧ ∀ q : Int, 0 ≤ q → q < 2 → (xsh (τ 269 34) q % 2 = 1 ∧ xsh (s0 269 34) q % 2 = 1 ∧ (τ 272 (s0 269 q) = 0 ∨ τ 272 (s0 269 q) = 2)) ∨ (xsh (τ 269 34) q % 2 = 0 ∧ ¬ (xsh (s0 269 34) q % 2 = 1 ∧ (τ 272 (s0 269 q) = 0 ∨ τ 272 (s0 269 q) = 2)))))))))) args s 0 0 (xA h0) := ⟨_, rfl⟩
  rw [← eQ]
  generalize hHe : ([] : List Loc) = locs at hW ⊢
  obtain ⟨H, eH⟩ : ∃ H, H = s.heap := ⟨_, rfl⟩
  rw [← eH] at hW ⊢
  have hF : xFr (fun k => k = 268 ∨ k = 269 ∨ k = 272 ∨ k = 273 ∨ k = 288) s0 s0 := xFr.rf
  have k269_37 : s0 269 37 = s0 269 37 := rfl
  have k269_0 : s0 269 0 = s0 269 0 := rfl
  have k269_1 : s0 269 1 = s0 269 1 := rfl
  have k269_2 : s0 269 2 = s0 269 2 := rfl
  have k269_3 : s0 269 3 = s0 269 3 := rfl
  have k268_8 : s0 268 8 = s0 268 8 := rfl
  have k268_58 : s0 268 58 = s0 268 58 := rfl
  have k269_34 : s0 269 34 = s0 269 34 := rfl
  refine x_iload_n hx hb hl 1 rfl dX11_market_0 rfl ?_
  refine x_iconst hx hb dX11_market_1 ?_
  refine x_sipush hx hb dX11_market_2 (by decide) ?_
  refine x_goi (x_runS (As := [.int (xJ n), .int (xJ 1), .int (xJ 140)]) hx hb hml hown hT hE hW hl.1 cf_X11_in wq1383 wq1382 (c_X11_in l D g T h0 s0 hW.2.1 n rn 1 (by decide) 140 (by decide)) ⟨rfl, rfl, ⟨by decide, by decide⟩, ⟨by decide, by decide⟩⟩ rfl rfl (Nat.le_of_ble_eq_true rfl) dX11_market_5) hW (fun x1 s2 H locs rx1 hp3 hW => ?_)
  obtain ⟨es2, hp3⟩ := hp3
  subst es2
  have ghp3 := hp3
  refine x_if_eq (tgt := 19) hx hb rx1 dX11_market_8 (by decide) (fun c4 => ?_) (fun c4 => ?_)
  · skip
    refine x_iconst hx hb dX11_market_19 ?_
    rw [eQ]
    exact x_iret hx hb hr hlk hW (by decide) ⟨hF, ⟨p0, p1, p2, k269_37, k269_0, k269_1, k269_2, k269_3, trivial⟩, Or.inl ⟨by omega, by omega, by omega, rfl, rfl, rfl, rfl⟩⟩ dX11_market_20
  refine x_iload_n hx hb hl 1 rfl dX11_market_11 rfl ?_
  refine x_aload_n hx hb hl 0 rfl dX11_market_12 rfl ?_
  refine x_get (j := 8) (v := .int (xJ (s0 268 8))) hx hb hown hT hE hW cls_X11 (Or.inl (by decide)) (so_268 h0 g _) (by decide) rfl wq1193 dX11_market_13 ?_
  refine x_rd hW (fun x5 ex5 rx5 => ?_)
  have bx5 : 0 ≤ x5 ∧ x5 ≤ 260 := by rw [ex5]; exact IMn.t p0
  have fx5 : x5 = s0 268 8 := ex5.trans k268_8
  refine x_icmp_le (tgt := 21) hx hb rn rx5 dX11_market_16 (by decide) (fun c6 => ?_) (fun c6 => ?_)
  · skip
    refine x_aload_n hx hb hl 0 rfl dX11_market_21 rfl ?_
    refine x_iconst hx hb dX11_market_22 ?_
    refine x_put (j := 9) hx hb hown hT hE hW cls_X11 (by decide) (fun σ => so_268 h0 g σ) (by decide) (st_X11_9 h0 s0 268 0) (ln_X11_9 h0 _ _) wq1194 rfl rfl rfl (by decide) dX11_market_23 (fun H locs s7 es7 hW => ?_)
    have q8 : IMn s7 := by rw [es7]; exact IMn_268 p0 (by omega)
    have q9 : IMk s7 := by rw [es7]; exact IMk_268 p1 (by omega)
    have q10 : IMo s7 := by rw [es7]; exact IMo_o (by unfold suIMo; first | decide | omega) p2
    have q11 : s7 269 37 = s0 269 37 := (show s7 269 37 = s0 269 37 from by rw [es7, xU_k _ _ _ (by first | decide | omega)]).trans k269_37
    have q12 : s7 269 0 = s0 269 0 := (show s7 269 0 = s0 269 0 from by rw [es7, xU_k _ _ _ (by first | decide | omega)]).trans k269_0
    have q13 : s7 269 1 = s0 269 1 := (show s7 269 1 = s0 269 1 from by rw [es7, xU_k _ _ _ (by first | decide | omega)]).trans k269_1
    have q14 : s7 269 2 = s0 269 2 := (show s7 269 2 = s0 269 2 from by rw [es7, xU_k _ _ _ (by first | decide | omega)]).trans k269_2
    have q15 : s7 269 3 = s0 269 3 := (show s7 269 3 = s0 269 3 from by rw [es7, xU_k _ _ _ (by first | decide | omega)]).trans k269_3
    have q16 : s7 268 8 = s0 268 8 := (show s7 268 8 = s0 268 8 from by rw [es7, xU_j _ _ (by decide)]).trans k268_8
    have q17 : s7 268 58 = s0 268 58 := (show s7 268 58 = s0 268 58 from by rw [es7, xU_j _ _ (by decide)]).trans k268_58
    have q18 : s7 269 34 = s0 269 34 := (show s7 269 34 = s0 269 34 from by rw [es7, xU_k _ _ _ (by first | decide | omega)]).trans k269_34
    have q19 : s7 268 9 = 0 := by rw [es7, xU_s]
    have hF20 := hF.put es7 (by omega)
    have Q23 : s7 288 = s0 288 ∧ s7 272 = s0 272 := by rw [es7, xU_k _ _ _ (by first | decide | omega), xU_k _ _ _ (by first | decide | omega)]; exact ⟨rfl, rfl⟩
    refine x_aload_n hx hb hl 0 rfl dX11_market_26 rfl ?_
    refine x_iload_n hx hb hl 1 rfl dX11_market_27 rfl ?_
    refine x_put (j := 10) hx hb hown hT hE hW cls_X11 (by decide) (fun σ => so_268 h0 g σ) (by decide) (st_X11_10 h0 s7 268 n) (ln_X11_10 h0 _ _) wq1195 rfl rfl rfl rn dX11_market_28 (fun H locs s21 es21 hW => ?_)
    have q22 : IMn s21 := by rw [es21]; exact IMn_268 q8 (by omega)
    have q23 : IMk s21 := by rw [es21]; exact IMk_268 q9 (by omega)
    have q24 : IMo s21 := by rw [es21]; exact IMo_o (by unfold suIMo; first | decide | omega) q10
    have q25 : s21 269 37 = s0 269 37 := (show s21 269 37 = s7 269 37 from by rw [es21, xU_k _ _ _ (by first | decide | omega)]).trans q11
    have q26 : s21 269 0 = s0 269 0 := (show s21 269 0 = s7 269 0 from by rw [es21, xU_k _ _ _ (by first | decide | omega)]).trans q12
    have q27 : s21 269 1 = s0 269 1 := (show s21 269 1 = s7 269 1 from by rw [es21, xU_k _ _ _ (by first | decide | omega)]).trans q13
    have q28 : s21 269 2 = s0 269 2 := (show s21 269 2 = s7 269 2 from by rw [es21, xU_k _ _ _ (by first | decide | omega)]).trans q14
    have q29 : s21 269 3 = s0 269 3 := (show s21 269 3 = s7 269 3 from by rw [es21, xU_k _ _ _ (by first | decide | omega)]).trans q15
    have q30 : s21 268 8 = s0 268 8 := (show s21 268 8 = s7 268 8 from by rw [es21, xU_j _ _ (by decide)]).trans q16
    have q31 : s21 268 58 = s0 268 58 := (show s21 268 58 = s7 268 58 from by rw [es21, xU_j _ _ (by decide)]).trans q17
    have q32 : s21 269 34 = s0 269 34 := (show s21 269 34 = s7 269 34 from by rw [es21, xU_k _ _ _ (by first | decide | omega)]).trans q18
    have q33 : s21 268 9 = 0 := (show s21 268 9 = s7 268 9 from by rw [es21, xU_j _ _ (by decide)]).trans q19
    have q34 : s21 268 10 = n := by rw [es21, xU_s]
    have hF35 := hF20.put es21 (by omega)
    have q36 : IR s21 := by unfold IR; omega
    have Q28 : s21 288 = s0 288 ∧ s21 272 = s0 272 := by rw [es21, xU_k _ _ _ (by first | decide | omega), xU_k _ _ _ (by first | decide | omega)]; exact Q23
    have G28 : s21 276 = s0 276 := hF35 276 (by first | decide | omega)
    have N28 : s21 268 10 = n := by omega
    have P28 : s21 268 9 = 0 := by omega
    refine x_aload_n hx hb hl 0 rfl dX11_market_31 rfl ?_
    refine x_iconst hx hb dX11_market_32 ?_
    refine x_goi (x_runV (As := [.int (xJ 0)]) hx hb hml hown hT hE hW hl.1 (Or.inl (by decide)) (so_268 h0 g _) rfl cf_X11_readsRow wq1387 wq105 wq1385 (c_X11_readsRowM l D g T h0 s21 hW.2.1 0 (by decide) (by omega) q22 q23 q24 q36) ⟨rfl, rfl, ⟨by decide, by decide⟩, ⟨by decide, by decide⟩⟩ rfl rfl (Nat.le_of_ble_eq_true rfl) dX11_market_33) hW (fun x37 s38 H locs rx37 hp39 hW => ?_)
    obtain ⟨fs38, hp39⟩ := hp39
    have hF40 := hF35.call fs38 (fun k h => by omega)
    have q41 : s38 269 37 = s0 269 37 := (congrFun (fs38 _ (by omega)) _).trans q25
    have q42 : s38 269 0 = s0 269 0 := (congrFun (fs38 _ (by omega)) _).trans q26
    have q43 : s38 269 1 = s0 269 1 := (congrFun (fs38 _ (by omega)) _).trans q27
    have q44 : s38 269 2 = s0 269 2 := (congrFun (fs38 _ (by omega)) _).trans q28
    have q45 : s38 269 3 = s0 269 3 := (congrFun (fs38 _ (by omega)) _).trans q29
    have q46 : s38 269 34 = s0 269 34 := (congrFun (fs38 _ (by omega)) _).trans q32
    have ghp39 := hp39.2
    have R33 := ghp39
    rw [G28, N28, P28, Q28.1] at R33
    have D33 := R33.cs
    have Q33 : s38 272 = s0 272 := (fs38 272 (by first | decide | omega)).trans Q28.2
    have B33 : (x37 = 1 ∧ zMk (xm8 (s0 276)) n (s0 288) = zM (xm8 (s0 276)) n (10 - 1 : Int).toNat 1 (s38 268 9) (s38 288)) ∨ (x37 = 0 ∧ (zMk (xm8 (s0 276)) n (s0 288)).1 ≠ 0 ∧ s38 268 11 = (zMk (xm8 (s0 276)) n (s0 288)).1 ∧ (zMk (xm8 (s0 276)) n (s0 288)).2.2 = s38 288) := by
      rcases D33 with ⟨d1, d2⟩ | ⟨d1, d2, d3, d4⟩
      · exact Or.inl ⟨d1, zN_ok (k := 9) d2⟩
      · have z : zMk (xm8 (s0 276)) n (s0 288) = _ := zN_bad (k := 9) d2
        rw [z]
        exact Or.inr ⟨d1, d2, d3, d4⟩
    refine lv_istore_n (lv' := [(2, .int (xJ x37)), (0, .ref (h0 + 268)), (1, .int (xJ n))]) hx hb dX11_market_36 rfl hl (by decide) rfl (fun ls hl => ?_)
    refine x_iconst hx hb dX11_market_37 ?_
    refine lv_istore_n (lv' := [(3, .int (xJ 1)), (2, .int (xJ x37)), (0, .ref (h0 + 268)), (1, .int (xJ n))]) hx hb dX11_market_38 rfl hl (by decide) rfl (fun ls hl => ?_)
    have L39 : ∀ (fu : Nat) (i2_39 : Int) (i3_39 : Int) (s_39 : xS) (H : Heap) (locs : List Loc) (ls : Array Slot), (xR i2_39) → (xR i3_39) → (xFr (fun k => k = 268 ∨ k = 269 ∨ k = 272 ∨ k = 273 ∨ k = 288) s0 s_39) → (s_39 269 37 = s0 269 37) → (s_39 269 0 = s0 269 0) → (s_39 269 1 = s0 269 1) → (s_39 269 2 = s0 269 2) → (s_39 269 3 = s0 269 3) → (s_39 269 34 = s0 269 34) → (IMn s_39) → (IMk s_39) → (IMo s_39) → (IR s_39) → (s_39 268 8 = s0 268 8) → (s_39 268 58 = s0 268 58) → (s_39 268 10 = n) → (1 ≤ i3_39 ∧ i3_39 ≤ 10) → ((i2_39 = 1 ∧ zMk (xm8 (s0 276)) n (s0 288) = zM (xm8 (s0 276)) n (10 - i3_39).toNat i3_39 (s_39 268 9) (s_39 288)) ∨ (i2_39 = 0 ∧ (zMk (xm8 (s0 276)) n (s0 288)).1 ≠ 0 ∧ s_39 268 11 = (zMk (xm8 (s0 276)) n (s0 288)).1 ∧ (zMk (xm8 (s0 276)) n (s0 288)).2.2 = s_39 288)) → (s_39 272 = s0 272) → (10 - i3_39).toNat < fu → xW D g h0 s H locs s_39 → lv_has ls 5 [(0, .ref (h0 + 268)), (2, .int (xJ i2_39)), (3, .int (xJ i3_39))] → W p l e { frames := 3, cells := 0, slots := 0, locals := 67 } s m args below meth c H locs 0 0 Q (F0 m 39 ls []) := by
      intro fu
      induction fu with
      | zero => intro i2_39 i3_39 s_39 H locs ls ri2_39 ri3_39 hF_39 q39_0 q39_1 q39_2 q39_3 q39_4 q39_5 q39_6 q39_7 q39_8 q39_9 q39_10 q39_11 q39_12 v39_0 v39_1 v39_2 hm; exact absurd hm (Nat.not_lt_zero _)
      | succ fu ih39 =>
        intro i2_39 i3_39 s_39 H locs ls ri2_39 ri3_39 hF_39 q39_0 q39_1 q39_2 q39_3 q39_4 q39_5 q39_6 q39_7 q39_8 q39_9 q39_10 q39_11 q39_12 v39_0 v39_1 v39_2 hm hW hl
        have hm_39 := fun (_ : Unit) => hm
        clear hm
        have r39 : 0 ≤ s_39 268 9 ∧ s_39 268 9 ≤ s_39 268 10 ∧ s_39 268 10 ≤ 240 := q39_9
        refine x_iload_n hx hb hl 2 rfl dX11_market_39 rfl ?_
        refine x_bipush hx hb dX11_market_40 (by decide) ?_
        have J78 : ∀ (ls : Array Slot), (i3_39 ≥ 10 ∨ i2_39 = 0) → lv_has ls 5 [(0, .ref (h0 + 268)), (2, .int (xJ i2_39))] → W p l e { frames := 3, cells := 0, slots := 0, locals := 67 } s m args below meth c H locs 0 0 Q (F0 m 78 ls []) := by
          intro ls v78_0  hl
          refine x_iload_n hx hb hl 1 rfl dX11_market_78 rfl ?_
          have J103 : ∀ (i2_103 : Int) (s_103 : xS) (H : Heap) (locs : List Loc) (ls : Array Slot), (xR i2_103) → (xFr (fun k => k = 268 ∨ k = 269 ∨ k = 272 ∨ k = 273 ∨ k = 288) s0 s_103) → (s_103 269 37 = s0 269 37) → (s_103 269 0 = s0 269 0) → (s_103 269 1 = s0 269 1) → (s_103 269 2 = s0 269 2) → (s_103 269 3 = s0 269 3) → (s_103 269 34 = s0 269 34) → (IMn s_103) → (IMk s_103) → (IMo s_103) → (IR s_103) → (s_103 268 8 = s0 268 8) → (s_103 268 58 = s0 268 58) → (s_103 268 10 = n) → ((i2_103 = 1 ∧ (zMk (xm8 (s0 276)) n (s0 288)).1 = 0 ∧ (zMk (xm8 (s0 276)) n (s0 288)).2.2 = s_103 288) ∨ (i2_103 = 0 ∧ (zMk (xm8 (s0 276)) n (s0 288)).1 ≠ 0 ∧ s_103 268 11 = (zMk (xm8 (s0 276)) n (s0 288)).1 ∧ (zMk (xm8 (s0 276)) n (s0 288)).2.2 = s_103 288)) → (s_103 272 = s0 272) → xW D g h0 s H locs s_103 → lv_has ls 5 [(0, .ref (h0 + 268)), (2, .int (xJ i2_103))] → W p l e { frames := 3, cells := 0, slots := 0, locals := 67 } s m args below meth c H locs 0 0 Q (F0 m 103 ls []) := by
            intro i2_103 s_103 H locs ls ri2_103 hF_103 q103_0 q103_1 q103_2 q103_3 q103_4 q103_5 q103_6 q103_7 q103_8 q103_9 q103_10 q103_11 q103_12 v103_0 v103_1 hW hl
            refine x_aload_n hx hb hl 0 rfl dX11_market_103 rfl ?_
            refine x_iconst hx hb dX11_market_104 ?_
            refine x_put (j := 8) hx hb hown hT hE hW cls_X11 (by decide) (fun σ => so_268 h0 g σ) (by decide) (st_X11_8 h0 s_103 268 0) (ln_X11_8 h0 _ _) wq1193 rfl rfl rfl (by decide) dX11_market_105 (fun H locs s47 es47 hW => ?_)
            have q48 : s47 269 37 = s0 269 37 := (show s47 269 37 = s_103 269 37 from by rw [es47, xU_k _ _ _ (by first | decide | omega)]).trans q103_0
            have q49 : s47 269 0 = s0 269 0 := (show s47 269 0 = s_103 269 0 from by rw [es47, xU_k _ _ _ (by first | decide | omega)]).trans q103_1
            have q50 : s47 269 1 = s0 269 1 := (show s47 269 1 = s_103 269 1 from by rw [es47, xU_k _ _ _ (by first | decide | omega)]).trans q103_2
            have q51 : s47 269 2 = s0 269 2 := (show s47 269 2 = s_103 269 2 from by rw [es47, xU_k _ _ _ (by first | decide | omega)]).trans q103_3
            have q52 : s47 269 3 = s0 269 3 := (show s47 269 3 = s_103 269 3 from by rw [es47, xU_k _ _ _ (by first | decide | omega)]).trans q103_4
            have q53 : s47 269 34 = s0 269 34 := (show s47 269 34 = s_103 269 34 from by rw [es47, xU_k _ _ _ (by first | decide | omega)]).trans q103_5
            have q54 : IMn s47 := by rw [es47]; exact IMn_268 q103_6 (by omega)
            have q55 : IMk s47 := by rw [es47]; exact IMk_268 q103_7 (by omega)
            have q56 : IMo s47 := by rw [es47]; exact IMo_o (by unfold suIMo; first | decide | omega) q103_8
            have q57 : IR s47 := by rw [es47]; exact IR_268 q103_9 (by omega)
            have q58 : s47 268 8 = 0 := by rw [es47, xU_s]
            have q59 : s47 268 58 = s0 268 58 := (show s47 268 58 = s_103 268 58 from by rw [es47, xU_j _ _ (by decide)]).trans q103_11
            have q60 : s47 268 10 = n := (show s47 268 10 = s_103 268 10 from by rw [es47, xU_j _ _ (by decide)]).trans q103_12
            have hF61 := hF_103.put es47 (by omega)
            have R105 : (i2_103 = 1 ∧ (zMk (xm8 (s0 276)) n (s0 288)).1 = 0 ∧ (zMk (xm8 (s0 276)) n (s0 288)).2.2 = s47 288) ∨ (i2_103 = 0 ∧ (zMk (xm8 (s0 276)) n (s0 288)).1 ≠ 0 ∧ s47 268 11 = (zMk (xm8 (s0 276)) n (s0 288)).1 ∧ (zMk (xm8 (s0 276)) n (s0 288)).2.2 = s47 288) := by rw [es47, xU_k _ _ _ (by first | decide | omega), xU_j _ _ (by decide)]; exact v103_0
            have Q105 : s47 272 = s0 272 := by rw [es47, xU_k _ _ _ (by first | decide | omega)]; exact v103_1
            obtain ⟨K9, eK9⟩ : ∃ K9, K9 = s47 288 := ⟨_, rfl⟩
            rw [← eK9] at R105
            refine x_iload_n hx hb hl 1 rfl dX11_market_108 rfl ?_
            refine x_if_ne (tgt := 117) hx hb ri2_103 dX11_market_109 (by decide) (fun c62 => ?_) (fun c62 => ?_)
            · skip
              refine x_iconst hx hb dX11_market_117 ?_
              refine lv_istore_n (lv' := [(3, .int (xJ 0)), (0, .ref (h0 + 268)), (2, .int (xJ i2_103))]) hx hb dX11_market_118 rfl hl (by decide) rfl (fun ls hl => ?_)
              refine x_iconst hx hb dX11_market_119 ?_
              refine lv_istore (lv' := [(4, .int (xJ 0)), (3, .int (xJ 0)), (0, .ref (h0 + 268)), (2, .int (xJ i2_103))]) hx hb dX11_market_120 hl (by decide) rfl (fun ls hl => ?_)
              have L122 : ∀ (fu : Nat) (i3_122 : Int) (i4_122 : Int) (s_122 : xS) (H : Heap) (locs : List Loc) (ls : Array Slot), (xR i3_122) → (xR i4_122) → (xFr (fun k => k = 268 ∨ k = 269 ∨ k = 272 ∨ k = 273 ∨ k = 288) s0 s_122) → (s_122 269 37 = s0 269 37) → (s_122 269 0 = s0 269 0) → (s_122 269 1 = s0 269 1) → (s_122 269 2 = s0 269 2) → (s_122 269 3 = s0 269 3) → (s_122 269 34 = s0 269 34) → (IMn s_122) → (IMk s_122) → (IMo s_122) → (IR s_122) → (s_122 268 8 = 0) → (s_122 268 58 = s0 268 58) → (s_122 268 10 = n) → (0 ≤ i4_122 ∧ i4_122 ≤ 100) → (i3_122 = i4_122 - zct K9 0 (i4_122).toNat) → (s_122 288 = K9) → (∀ q : Int, 0 ≤ q → q < i4_122 → s_122 272 q = K9 q) → (0 ≤ i3_122 ∧ i3_122 ≤ i4_122) → (100 - i4_122).toNat < fu → xW D g h0 s H locs s_122 → lv_has ls 5 [(0, .ref (h0 + 268)), (3, .int (xJ i3_122)), (4, .int (xJ i4_122))] → W p l e { frames := 3, cells := 0, slots := 0, locals := 67 } s m args below meth c H locs 0 0 Q (F0 m 122 ls []) := by
                intro fu
                induction fu with
                | zero => intro i3_122 i4_122 s_122 H locs ls ri3_122 ri4_122 hF_122 q122_0 q122_1 q122_2 q122_3 q122_4 q122_5 q122_6 q122_7 q122_8 q122_9 q122_10 q122_11 q122_12 v122_0 v122_1 v122_2 v122_3 v122_4 hm; exact absurd hm (Nat.not_lt_zero _)
                | succ fu ih122 =>
                  intro i3_122 i4_122 s_122 H locs ls ri3_122 ri4_122 hF_122 q122_0 q122_1 q122_2 q122_3 q122_4 q122_5 q122_6 q122_7 q122_8 q122_9 q122_10 q122_11 q122_12 v122_0 v122_1 v122_2 v122_3 v122_4 hm hW hl
                  have hm_122 := fun (_ : Unit) => hm
                  clear hm
                  refine x_iload hx hb hl 2 rfl dX11_market_122 ?_
                  refine x_bipush hx hb dX11_market_124 (by decide) ?_
                  refine x_icmp_ge (tgt := 167) hx hb ri4_122 (by decide) dX11_market_126 (by decide) (fun c63 => ?_) (fun c63 => ?_)
                  · skip
                    refine x_iconst hx hb dX11_market_167 ?_
                    refine lv_istore (lv' := [(4, .int (xJ 0)), (0, .ref (h0 + 268)), (3, .int (xJ i3_122))]) hx hb dX11_market_168 hl (by decide) rfl (fun ls hl => ?_)
                    have L170 : ∀ (fu : Nat) (i4_170 : Int) (s_170 : xS) (H : Heap) (locs : List Loc) (ls : Array Slot), (xR i4_170) → (xFr (fun k => k = 268 ∨ k = 269 ∨ k = 272 ∨ k = 273 ∨ k = 288) s0 s_170) → (s_170 269 37 = s0 269 37) → (s_170 269 0 = s0 269 0) → (s_170 269 1 = s0 269 1) → (s_170 269 2 = s0 269 2) → (s_170 269 3 = s0 269 3) → (IMn s_170) → (IMk s_170) → (IMo s_170) → (IR s_170) → (s_170 268 8 = 0) → (s_170 268 58 = s0 268 58) → (s_170 268 10 = n) → (0 ≤ i4_170) → (i4_170 ≤ 2) → (s_170 272 = s_122 272 ∧ s_170 288 = K9) → (0 ≤ s_170 269 34 ∧ s_170 269 34 ≤ 3) → (∀ q : Int, 0 ≤ q → q < i4_170 → (xsh (s_170 269 34) q % 2 = 1 ∧ xsh (s0 269 34) q % 2 = 1 ∧ (K9 (s0 269 q) = 0 ∨ K9 (s0 269 q) = 2)) ∨ (xsh (s_170 269 34) q % 2 = 0 ∧ ¬ (xsh (s0 269 34) q % 2 = 1 ∧ (K9 (s0 269 q) = 0 ∨ K9 (s0 269 q) = 2)))) → (∀ q : Int, i4_170 ≤ q → q < 2 → xsh (s_170 269 34) q % 2 = xsh (s0 269 34) q % 2) → (2 + 1 - i4_170).toNat < fu → xW D g h0 s H locs s_170 → lv_has ls 5 [(0, .ref (h0 + 268)), (3, .int (xJ i3_122)), (4, .int (xJ i4_170))] → W p l e { frames := 3, cells := 0, slots := 0, locals := 67 } s m args below meth c H locs 0 0 Q (F0 m 170 ls []) := by
                      intro fu
                      induction fu with
                      | zero => intro i4_170 s_170 H locs ls ri4_170 hF_170 q170_0 q170_1 q170_2 q170_3 q170_4 q170_6 q170_7 q170_8 q170_9 q170_10 q170_11 q170_12 v170_0 v170_1 v170_2 v170_3 v170_4 v170_5 hm; exact absurd hm (Nat.not_lt_zero _)
                      | succ fu ih170 =>
                        intro i4_170 s_170 H locs ls ri4_170 hF_170 q170_0 q170_1 q170_2 q170_3 q170_4 q170_6 q170_7 q170_8 q170_9 q170_10 q170_11 q170_12 v170_0 v170_1 v170_2 v170_3 v170_4 v170_5 hm hW hl
                        have hm_170 := fun (_ : Unit) => hm
                        clear hm
                        refine x_iload hx hb hl 2 rfl dX11_market_170 ?_
                        refine x_iconst hx hb dX11_market_172 ?_
                        refine x_icmp_ge (tgt := 228) hx hb ri4_170 (by decide) dX11_market_173 (by decide) (fun c64 => ?_) (fun c64 => ?_)
                        · skip
                          refine x_iconst hx hb dX11_market_228 ?_
                          refine lv_istore (lv' := [(4, .int (xJ 0)), (0, .ref (h0 + 268)), (3, .int (xJ i3_122))]) hx hb dX11_market_229 hl (by decide) rfl (fun ls hl => ?_)
                          have L231 : ∀ (fu : Nat) (i4_231 : Int) (s_231 : xS) (H : Heap) (locs : List Loc) (ls : Array Slot), (xR i4_231) → (xFr (fun k => k = 268 ∨ k = 269 ∨ k = 272 ∨ k = 273 ∨ k = 288) s0 s_231) → (s_231 269 37 = s0 269 37) → (s_231 269 0 = s0 269 0) → (s_231 269 1 = s0 269 1) → (s_231 269 2 = s0 269 2) → (s_231 269 3 = s0 269 3) → (IMn s_231) → (IMk s_231) → (IMo s_231) → (IR s_231) → (s_231 268 8 = 0) → (s_231 268 58 = s0 268 58) → (s_231 268 10 = n) → (0 ≤ i4_231) → (i4_231 ≤ 10) → (s_231 272 = s_122 272 ∧ s_231 288 = K9) → (s_231 269 34 = s_170 269 34) → (10 + 1 - i4_231).toNat < fu → xW D g h0 s H locs s_231 → lv_has ls 5 [(0, .ref (h0 + 268)), (3, .int (xJ i3_122)), (4, .int (xJ i4_231))] → W p l e { frames := 3, cells := 0, slots := 0, locals := 67 } s m args below meth c H locs 0 0 Q (F0 m 231 ls []) := by
                            intro fu
                            induction fu with
                            | zero => intro i4_231 s_231 H locs ls ri4_231 hF_231 q231_0 q231_1 q231_2 q231_3 q231_4 q231_5 q231_6 q231_7 q231_8 q231_9 q231_10 q231_11 v231_0 v231_1 v231_2 v231_3 hm; exact absurd hm (Nat.not_lt_zero _)
                            | succ fu ih231 =>
                              intro i4_231 s_231 H locs ls ri4_231 hF_231 q231_0 q231_1 q231_2 q231_3 q231_4 q231_5 q231_6 q231_7 q231_8 q231_9 q231_10 q231_11 v231_0 v231_1 v231_2 v231_3 hm hW hl
                              have hm_231 := fun (_ : Unit) => hm
                              clear hm
                              refine x_iload hx hb hl 2 rfl dX11_market_231 ?_
                              refine x_bipush hx hb dX11_market_233 (by decide) ?_
                              refine x_icmp_ge (tgt := 290) hx hb ri4_231 (by decide) dX11_market_235 (by decide) (fun c65 => ?_) (fun c65 => ?_)
                              · skip
                                refine x_aload_n hx hb hl 0 rfl dX11_market_290 rfl ?_
                                refine x_iconst hx hb dX11_market_291 ?_
                                refine x_put (j := 58) hx hb hown hT hE hW cls_X11 (by decide) (fun σ => so_268 h0 g σ) (by decide) (st_X11_58 h0 s_231 268 0) (ln_X11_58 h0 _ _) wq1243 rfl rfl rfl (by decide) dX11_market_292 (fun H locs s66 es66 hW => ?_)
                                have q67 : s66 269 37 = s0 269 37 := (show s66 269 37 = s_231 269 37 from by rw [es66, xU_k _ _ _ (by first | decide | omega)]).trans q231_0
                                have q68 : s66 269 0 = s0 269 0 := (show s66 269 0 = s_231 269 0 from by rw [es66, xU_k _ _ _ (by first | decide | omega)]).trans q231_1
                                have q69 : s66 269 1 = s0 269 1 := (show s66 269 1 = s_231 269 1 from by rw [es66, xU_k _ _ _ (by first | decide | omega)]).trans q231_2
                                have q70 : s66 269 2 = s0 269 2 := (show s66 269 2 = s_231 269 2 from by rw [es66, xU_k _ _ _ (by first | decide | omega)]).trans q231_3
                                have q71 : s66 269 3 = s0 269 3 := (show s66 269 3 = s_231 269 3 from by rw [es66, xU_k _ _ _ (by first | decide | omega)]).trans q231_4
                                have q72 : IMn s66 := by rw [es66]; exact IMn_268 q231_5 (by omega)
                                have q73 : IMk s66 := by rw [es66]; exact IMk_268 q231_6 (by omega)
                                have q74 : IMo s66 := by rw [es66]; exact IMo_o (by unfold suIMo; first | decide | omega) q231_7
                                have q75 : IR s66 := by rw [es66]; exact IR_268 q231_8 (by omega)
                                have q76 : s66 268 8 = 0 := (show s66 268 8 = s_231 268 8 from by rw [es66, xU_j _ _ (by decide)]).trans q231_9
                                have q77 : s66 268 58 = 0 := by rw [es66, xU_s]
                                have q78 : s66 268 10 = n := (show s66 268 10 = s_231 268 10 from by rw [es66, xU_j _ _ (by decide)]).trans q231_11
                                have hF79 := hF_231.put es66 (by omega)
                                refine x_iconst hx hb dX11_market_295 ?_
                                refine lv_istore (lv' := [(4, .int (xJ 0)), (0, .ref (h0 + 268)), (3, .int (xJ i3_122))]) hx hb dX11_market_296 hl (by decide) rfl (fun ls hl => ?_)
                                have L298 : ∀ (fu : Nat) (i4_298 : Int) (s_298 : xS) (H : Heap) (locs : List Loc) (ls : Array Slot), (xR i4_298) → (xFr (fun k => k = 268 ∨ k = 269 ∨ k = 272 ∨ k = 273 ∨ k = 288) s0 s_298) → (s_298 269 37 = s0 269 37) → (s_298 269 0 = s0 269 0) → (s_298 269 1 = s0 269 1) → (s_298 269 2 = s0 269 2) → (s_298 269 3 = s0 269 3) → (IMn s_298) → (IMk s_298) → (IMo s_298) → (IR s_298) → (s_298 268 8 = 0) → (s_298 268 58 = 0) → (s_298 268 10 = n) → (0 ≤ i4_298) → (i4_298 ≤ 4) → (s_298 272 = s_122 272 ∧ s_298 288 = K9) → (s_298 269 34 = s_170 269 34) → (4 + 1 - i4_298).toNat < fu → xW D g h0 s H locs s_298 → lv_has ls 5 [(0, .ref (h0 + 268)), (3, .int (xJ i3_122)), (4, .int (xJ i4_298))] → W p l e { frames := 3, cells := 0, slots := 0, locals := 67 } s m args below meth c H locs 0 0 Q (F0 m 298 ls []) := by
                                  intro fu
                                  induction fu with
                                  | zero => intro i4_298 s_298 H locs ls ri4_298 hF_298 q298_0 q298_1 q298_2 q298_3 q298_4 q298_5 q298_6 q298_7 q298_8 q298_9 q298_10 q298_11 v298_0 v298_1 v298_2 v298_3 hm; exact absurd hm (Nat.not_lt_zero _)
                                  | succ fu ih298 =>
                                    intro i4_298 s_298 H locs ls ri4_298 hF_298 q298_0 q298_1 q298_2 q298_3 q298_4 q298_5 q298_6 q298_7 q298_8 q298_9 q298_10 q298_11 v298_0 v298_1 v298_2 v298_3 hm hW hl
                                    have hm_298 := fun (_ : Unit) => hm
                                    clear hm
                                    refine x_iload hx hb hl 2 rfl dX11_market_298 ?_
                                    refine x_iconst hx hb dX11_market_300 ?_
                                    refine x_icmp_ge (tgt := 343) hx hb ri4_298 (by decide) dX11_market_301 (by decide) (fun c80 => ?_) (fun c80 => ?_)
                                    · skip
                                      refine x_iload_n hx hb hl 1 rfl dX11_market_343 rfl ?_
                                      rw [eQ]
                                      exact x_iret hx hb hr hlk hW ri3_122 ⟨hF_298, ⟨q298_5, q298_6, q298_7, q298_0, q298_1, q298_2, q298_3, q298_4, trivial⟩, by
                                          have z := R105.resolve_right (fun q => by omega)
                                          exact Or.inr ⟨by omega, by omega, v298_2.2.trans z.2.2.symm, Or.inr ⟨z.2.1, fun j a b => by rw [v298_2.1, z.2.2]; exact v122_3 j a (by omega), by rw [z.2.2, show (100 : Nat) = (i4_122).toNat from by omega]; omega, by omega, by rw [v298_3]; exact v170_3, fun q q1 q2 => by
                                            have g := (IMn.n1 p0).1 q q1 q2
                                            rw [v298_3, v298_2.1, v122_3 _ g.1 (by omega)]
                                            exact v170_4 q q1 (by omega)⟩⟩⟩ dX11_market_344
                                    refine x_aload_n hx hb hl 0 rfl dX11_market_304 rfl ?_
                                    refine x_get (j := 4) (v := .ref (h0 + 273)) hx hb hown hT hE hW cls_X11 (Or.inl (by decide)) (so_268 h0 g _) (by decide) rfl wq1189 dX11_market_305 ?_
                                    refine x_iload hx hb hl 2 rfl dX11_market_308 ?_
                                    refine x_iald hx hb hE hW (Or.inl (by decide)) (sa_273 h0 g _) (by omega) (by decide) dX11_market_310 ?_
                                    refine x_rd hW (fun x81 ex81 rx81 => ?_)
                                    have bx81 : -1 ≤ x81 ∧ x81 ≤ 99 := by rw [ex81]; exact IMn.l q298_5 _ (by omega) (by omega)
                                    refine x_iconst hx hb dX11_market_311 ?_
                                    refine x_icmp_eq (tgt := 337) hx hb rx81 (by decide) dX11_market_312 (by decide) (fun c82 => ?_) (fun c82 => ?_)
                                    · skip
                                      refine x_iinc (lv' := [(4, .int (xJ (i4_298 + 1))), (0, .ref (h0 + 268)), (3, .int (xJ i3_122))]) hx hb hl 2 rfl dX11_market_337 (by decide) rfl (fun ls hl => ?_)
                                      refine lv_goto (tgt := 298) hx hb dX11_market_340 (by decide) ?_
                                      exact ih298 (i4_298 + 1) s_298 H locs ls (by omega) hF_298 q298_0 q298_1 q298_2 q298_3 q298_4 q298_5 q298_6 q298_7 q298_8 q298_9 q298_10 q298_11 (by omega) (by omega) (by first | exact v298_2 | (rw [es_298, xU_k _ _ _ (by first | decide | omega), xU_k _ _ _ (by first | decide | omega)]; exact v298_2)) (by first | exact v298_3 | (rw [es_298, xU_k _ _ _ (by first | decide | omega)]; exact v298_3)) (by have hm := hm_298 (); omega) hW (lv_sub hl [1, 2, 0] rfl)
                                    refine x_aload_n hx hb hl 0 rfl dX11_market_315 rfl ?_
                                    refine x_aload_n hx hb hl 0 rfl dX11_market_316 rfl ?_
                                    refine x_get (j := 4) (v := .ref (h0 + 273)) hx hb hown hT hE hW cls_X11 (Or.inl (by decide)) (so_268 h0 g _) (by decide) rfl wq1189 dX11_market_317 ?_
                                    refine x_iload hx hb hl 2 rfl dX11_market_320 ?_
                                    refine x_iald hx hb hE hW (Or.inl (by decide)) (sa_273 h0 g _) (by omega) (by decide) dX11_market_322 ?_
                                    refine x_rd hW (fun x83 ex83 rx83 => ?_)
                                    have bx83 : -1 ≤ x83 ∧ x83 ≤ 99 := by rw [ex83]; exact IMn.l q298_5 _ (by omega) (by omega)
                                    refine x_goi (x_runV (As := [.int (xJ x83)]) hx hb hml hown hT hE hW hl.1 (Or.inl (by decide)) (so_268 h0 g _) rfl cf_X11_isGround wq1419 wq110 wq1417 (c_X11_isGroundM l D g T h0 s_298 hW.2.1 x83 rx83 (by omega) q298_5 q298_6 q298_7) ⟨rfl, rfl, ⟨by decide, by decide⟩, ⟨by decide, by decide⟩⟩ rfl rfl (Nat.le_of_ble_eq_true rfl) dX11_market_323) hW (fun x84 s85 H locs rx84 hp86 hW => ?_)
                                    obtain ⟨es85, hp86⟩ := hp86
                                    subst es85
                                    have ghp86 := hp86
                                    refine x_if_ne (tgt := 337) hx hb rx84 dX11_market_326 (by decide) (fun c87 => ?_) (fun c87 => ?_)
                                    · skip
                                      refine x_iinc (lv' := [(4, .int (xJ (i4_298 + 1))), (0, .ref (h0 + 268)), (3, .int (xJ i3_122))]) hx hb hl 2 rfl dX11_market_337 (by decide) rfl (fun ls hl => ?_)
                                      refine lv_goto (tgt := 298) hx hb dX11_market_340 (by decide) ?_
                                      exact ih298 (i4_298 + 1) s_298 H locs ls (by omega) hF_298 q298_0 q298_1 q298_2 q298_3 q298_4 q298_5 q298_6 q298_7 q298_8 q298_9 q298_10 q298_11 (by omega) (by omega) (by first | exact v298_2 | (rw [es_298, xU_k _ _ _ (by first | decide | omega), xU_k _ _ _ (by first | decide | omega)]; exact v298_2)) (by first | exact v298_3 | (rw [es_298, xU_k _ _ _ (by first | decide | omega)]; exact v298_3)) (by have hm := hm_298 (); omega) hW (lv_sub hl [1, 2, 0] rfl)
                                    refine x_aload_n hx hb hl 0 rfl dX11_market_329 rfl ?_
                                    refine x_get (j := 4) (v := .ref (h0 + 273)) hx hb hown hT hE hW cls_X11 (Or.inl (by decide)) (so_268 h0 g _) (by decide) rfl wq1189 dX11_market_330 ?_
                                    refine x_iload hx hb hl 2 rfl dX11_market_333 ?_
                                    refine x_iconst hx hb dX11_market_335 ?_
                                    refine x_iast hx hb hE hW (by decide) (fun σ => sa_273 h0 g σ) (by omega) (by decide) (by decide) dX11_market_336 (fun H locs s88 es88 hW => ?_)
                                    have q89 : s88 269 37 = s0 269 37 := (show s88 269 37 = s_298 269 37 from by rw [es88, xU_k _ _ _ (by first | decide | omega)]).trans q298_0
                                    have q90 : s88 269 0 = s0 269 0 := (show s88 269 0 = s_298 269 0 from by rw [es88, xU_k _ _ _ (by first | decide | omega)]).trans q298_1
                                    have q91 : s88 269 1 = s0 269 1 := (show s88 269 1 = s_298 269 1 from by rw [es88, xU_k _ _ _ (by first | decide | omega)]).trans q298_2
                                    have q92 : s88 269 2 = s0 269 2 := (show s88 269 2 = s_298 269 2 from by rw [es88, xU_k _ _ _ (by first | decide | omega)]).trans q298_3
                                    have q93 : s88 269 3 = s0 269 3 := (show s88 269 3 = s_298 269 3 from by rw [es88, xU_k _ _ _ (by first | decide | omega)]).trans q298_4
                                    have q94 : IMn s88 := by rw [es88]; exact IMn_273 q298_5 (by omega)
                                    have q95 : IMk s88 := by rw [es88]; exact IMk_o (by unfold suIMk; first | decide | omega) q298_6
                                    have q96 : IMo s88 := by rw [es88]; exact IMo_o (by unfold suIMo; first | decide | omega) q298_7
                                    have q97 : IR s88 := by rw [es88]; exact IR_o (by unfold suIR; first | decide | omega) q298_8
                                    have q98 : s88 268 8 = 0 := (show s88 268 8 = s_298 268 8 from by rw [es88, xU_k _ _ _ (by first | decide | omega)]).trans q298_9
                                    have q99 : s88 268 58 = 0 := (show s88 268 58 = s_298 268 58 from by rw [es88, xU_k _ _ _ (by first | decide | omega)]).trans q298_10
                                    have q100 : s88 268 10 = n := (show s88 268 10 = s_298 268 10 from by rw [es88, xU_k _ _ _ (by first | decide | omega)]).trans q298_11
                                    have hF101 := hF_298.put es88 (by omega)
                                    refine x_iinc (lv' := [(4, .int (xJ (i4_298 + 1))), (0, .ref (h0 + 268)), (3, .int (xJ i3_122))]) hx hb hl 2 rfl dX11_market_337 (by decide) rfl (fun ls hl => ?_)
                                    refine lv_goto (tgt := 298) hx hb dX11_market_340 (by decide) ?_
                                    exact ih298 (i4_298 + 1) s88 H locs ls (by omega) hF101 q89 q90 q91 q92 q93 q94 q95 q96 q97 q98 q99 q100 (by omega) (by omega) (by first | exact v298_2 | (rw [es88, xU_k _ _ _ (by first | decide | omega), xU_k _ _ _ (by first | decide | omega)]; exact v298_2)) (by first | exact v298_3 | (rw [es88, xU_k _ _ _ (by first | decide | omega)]; exact v298_3)) (by have hm := hm_298 (); omega) hW (lv_sub hl [1, 2, 0] rfl)
                                exact L298 ((4 + 1 - 0 : Int).toNat + 1) 0 s66 H locs ls (by decide) hF79 q67 q68 q69 q70 q71 q72 q73 q74 q75 q76 q77 q78 (by omega) (by omega) (by rw [es66, xU_k _ _ _ (by first | decide | omega), xU_k _ _ _ (by first | decide | omega)]; exact v231_2) (by first | exact v231_3 | (rw [es66, xU_k _ _ _ (by first | decide | omega)]; exact v231_3)) (Nat.lt_succ_self _) hW (lv_sub hl [1, 2, 0] rfl)
                              refine x_aload_n hx hb hl 0 rfl dX11_market_238 rfl ?_
                              refine x_iload hx hb hl 2 rfl dX11_market_239 ?_
                              refine x_goi (x_runV (As := [.int (xJ i4_231)]) hx hb hml hown hT hE hW hl.1 (Or.inl (by decide)) (so_268 h0 g _) rfl cf_X11_isFelon wq1423 wq111 wq1421 (c_X11_isFelon l D g T h0 s_231 hW.2.1 i4_231 ri4_231 q231_5 q231_6 q231_7) ⟨rfl, rfl, ⟨by decide, by decide⟩, ⟨by decide, by decide⟩⟩ rfl rfl (Nat.le_of_ble_eq_true rfl) dX11_market_241) hW (fun x102 s103 H locs rx102 hp104 hW => ?_)
                              obtain ⟨es103, hp104⟩ := hp104
                              subst es103
                              have ghp104 := hp104
                              refine x_if_eq (tgt := 284) hx hb rx102 dX11_market_244 (by decide) (fun c105 => ?_) (fun c105 => ?_)
                              · skip
                                refine x_iinc (lv' := [(4, .int (xJ (i4_231 + 1))), (0, .ref (h0 + 268)), (3, .int (xJ i3_122))]) hx hb hl 2 rfl dX11_market_284 (by decide) rfl (fun ls hl => ?_)
                                refine lv_goto (tgt := 231) hx hb dX11_market_287 (by decide) ?_
                                exact ih231 (i4_231 + 1) s_231 H locs ls (by omega) hF_231 q231_0 q231_1 q231_2 q231_3 q231_4 q231_5 q231_6 q231_7 q231_8 q231_9 q231_10 q231_11 (by omega) (by omega) (by first | exact v231_2 | (rw [es_231, xU_k _ _ _ (by first | decide | omega), xU_k _ _ _ (by first | decide | omega)]; exact v231_2)) (by first | exact v231_3 | (rw [es_231, xU_j _ _ (by decide)]; exact v231_3)) (by have hm := hm_231 (); omega) hW (lv_sub hl [1, 2, 0] rfl)
                              refine x_aload_n hx hb hl 0 rfl dX11_market_247 rfl ?_
                              refine x_aload_n hx hb hl 0 rfl dX11_market_248 rfl ?_
                              refine x_get (j := 0) (v := .ref (h0 + 269)) hx hb hown hT hE hW cls_X11 (Or.inl (by decide)) (so_268 h0 g _) (by decide) rfl wq1185 dX11_market_249 ?_
                              refine x_iconst hx hb dX11_market_252 ?_
                              refine x_iload hx hb hl 2 rfl dX11_market_253 ?_
                              refine x_iadd hx hb dX11_market_255 ?_
                              refine x_iald hx hb hE hW (Or.inl (by decide)) (sa_269 h0 g _) (by omega) (by decide) dX11_market_256 ?_
                              refine x_rd hW (fun x106 ex106 rx106 => ?_)
                              have bx106 : 0 ≤ x106 ∧ x106 ≤ 99 := by rw [ex106]; exact (IMn.n1 q231_5).2.2.1 _ (by omega) (by omega)
                              refine x_goi (x_runV (As := [.int (xJ x106)]) hx hb hml hown hT hE hW hl.1 (Or.inl (by decide)) (so_268 h0 g _) rfl cf_X11_isGround wq1419 wq110 wq1417 (c_X11_isGroundM l D g T h0 s_231 hW.2.1 x106 rx106 (by omega) q231_5 q231_6 q231_7) ⟨rfl, rfl, ⟨by decide, by decide⟩, ⟨by decide, by decide⟩⟩ rfl rfl (Nat.le_of_ble_eq_true rfl) dX11_market_257) hW (fun x107 s108 H locs rx107 hp109 hW => ?_)
                              obtain ⟨es108, hp109⟩ := hp109
                              subst es108
                              have ghp109 := hp109
                              refine x_if_ne (tgt := 284) hx hb rx107 dX11_market_260 (by decide) (fun c110 => ?_) (fun c110 => ?_)
                              · skip
                                refine x_iinc (lv' := [(4, .int (xJ (i4_231 + 1))), (0, .ref (h0 + 268)), (3, .int (xJ i3_122))]) hx hb hl 2 rfl dX11_market_284 (by decide) rfl (fun ls hl => ?_)
                                refine lv_goto (tgt := 231) hx hb dX11_market_287 (by decide) ?_
                                exact ih231 (i4_231 + 1) s_231 H locs ls (by omega) hF_231 q231_0 q231_1 q231_2 q231_3 q231_4 q231_5 q231_6 q231_7 q231_8 q231_9 q231_10 q231_11 (by omega) (by omega) (by first | exact v231_2 | (rw [es_231, xU_k _ _ _ (by first | decide | omega), xU_k _ _ _ (by first | decide | omega)]; exact v231_2)) (by first | exact v231_3 | (rw [es_231, xU_j _ _ (by decide)]; exact v231_3)) (by have hm := hm_231 (); omega) hW (lv_sub hl [1, 2, 0] rfl)
                              refine x_aload_n hx hb hl 0 rfl dX11_market_263 rfl ?_
                              refine x_get (j := 0) (v := .ref (h0 + 269)) hx hb hown hT hE hW cls_X11 (Or.inl (by decide)) (so_268 h0 g _) (by decide) rfl wq1185 dX11_market_264 ?_
                              refine x_bipush hx hb dX11_market_267 (by decide) ?_
                              refine x_aload_n hx hb hl 0 rfl dX11_market_269 rfl ?_
                              refine x_get (j := 0) (v := .ref (h0 + 269)) hx hb hown hT hE hW cls_X11 (Or.inl (by decide)) (so_268 h0 g _) (by decide) rfl wq1185 dX11_market_270 ?_
                              refine x_bipush hx hb dX11_market_273 (by decide) ?_
                              refine x_iald hx hb hE hW (Or.inl (by decide)) (sa_269 h0 g _) ⟨by decide, by decide⟩ (by decide) dX11_market_275 ?_
                              refine x_rd hW (fun x111 ex111 rx111 => ?_)
                              refine x_iconst hx hb dX11_market_276 ?_
                              refine x_iload hx hb hl 2 rfl dX11_market_277 ?_
                              refine lv_ishl hx hb dX11_market_279 ?_
                              refine x_any (fun x112 rx112 => ?_)
                              refine x_iconst hx hb dX11_market_280 ?_
                              refine lv_ixor hx hb dX11_market_281 ?_
                              refine x_any (fun x113 rx113 => ?_)
                              refine lv_iand hx hb dX11_market_282 ?_
                              refine x_any (fun x114 rx114 => ?_)
                              refine x_iast hx hb hE hW (by decide) (fun σ => sa_269 h0 g σ) ⟨by decide, by decide⟩ (by decide) rx114 dX11_market_283 (fun H locs s115 es115 hW => ?_)
                              have q116 : s115 269 37 = s0 269 37 := (show s115 269 37 = s_231 269 37 from by rw [es115, xU_j _ _ (by decide)]).trans q231_0
                              have q117 : s115 269 0 = s0 269 0 := (show s115 269 0 = s_231 269 0 from by rw [es115, xU_j _ _ (by decide)]).trans q231_1
                              have q118 : s115 269 1 = s0 269 1 := (show s115 269 1 = s_231 269 1 from by rw [es115, xU_j _ _ (by decide)]).trans q231_2
                              have q119 : s115 269 2 = s0 269 2 := (show s115 269 2 = s_231 269 2 from by rw [es115, xU_j _ _ (by decide)]).trans q231_3
                              have q120 : s115 269 3 = s0 269 3 := (show s115 269 3 = s_231 269 3 from by rw [es115, xU_j _ _ (by decide)]).trans q231_4
                              have q121 : IMn s115 := by rw [es115]; exact IMn_N269 q231_5 (by omega)
                              have q122 : IMk s115 := by rw [es115]; exact IMk_o (by unfold suIMk; first | decide | omega) q231_6
                              have q123 : IMo s115 := by rw [es115]; exact IMo_o (by unfold suIMo; first | decide | omega) q231_7
                              have q124 : IR s115 := by rw [es115]; exact IR_o (by unfold suIR; first | decide | omega) q231_8
                              have q125 : s115 268 8 = 0 := (show s115 268 8 = s_231 268 8 from by rw [es115, xU_k _ _ _ (by first | decide | omega)]).trans q231_9
                              have q126 : s115 268 58 = s0 268 58 := (show s115 268 58 = s_231 268 58 from by rw [es115, xU_k _ _ _ (by first | decide | omega)]).trans q231_10
                              have q127 : s115 268 10 = n := (show s115 268 10 = s_231 268 10 from by rw [es115, xU_k _ _ _ (by first | decide | omega)]).trans q231_11
                              have hF128 := hF_231.put es115 (by omega)
                              refine x_iinc (lv' := [(4, .int (xJ (i4_231 + 1))), (0, .ref (h0 + 268)), (3, .int (xJ i3_122))]) hx hb hl 2 rfl dX11_market_284 (by decide) rfl (fun ls hl => ?_)
                              refine lv_goto (tgt := 231) hx hb dX11_market_287 (by decide) ?_
                              exact ih231 (i4_231 + 1) s115 H locs ls (by omega) hF128 q116 q117 q118 q119 q120 q121 q122 q123 q124 q125 q126 q127 (by omega) (by omega) (by first | exact v231_2 | (rw [es115, xU_k _ _ _ (by first | decide | omega), xU_k _ _ _ (by first | decide | omega)]; exact v231_2)) (by first | exact v231_3 | (rw [es115, xU_j _ _ (by decide)]; exact v231_3)) (by have hm := hm_231 (); omega) hW (lv_sub hl [1, 2, 0] rfl)
                          exact L231 ((10 + 1 - 0 : Int).toNat + 1) 0 s_170 H locs ls (by decide) hF_170 q170_0 q170_1 q170_2 q170_3 q170_4 q170_6 q170_7 q170_8 q170_9 q170_10 q170_11 q170_12 (by omega) (by omega) (v170_2) (rfl) (Nat.lt_succ_self _) hW (lv_sub hl [1, 2, 0] rfl)
                        refine x_aload_n hx hb hl 0 rfl dX11_market_176 rfl ?_
                        refine x_iload hx hb hl 2 rfl dX11_market_177 ?_
                        refine x_goi (x_runV (As := [.int (xJ i4_170)]) hx hb hml hown hT hE hW hl.1 (Or.inl (by decide)) (so_268 h0 g _) rfl cf_X11_isJudge wq1409 wq109 wq1407 (c_X11_isJudgeJ l D g T h0 s_170 hW.2.1 i4_170 ri4_170 q170_6 q170_7 q170_8) ⟨rfl, rfl, ⟨by decide, by decide⟩, ⟨by decide, by decide⟩⟩ rfl rfl (Nat.le_of_ble_eq_true rfl) dX11_market_179) hW (fun x129 s130 H locs rx129 hp131 hW => ?_)
                        obtain ⟨es130, hp131⟩ := hp131
                        subst es130
                        have ghp131 := hp131
                        have H179 := ghp131
                        have M179 : x129 = 0 → ∀ q : Int, 0 ≤ q → q < i4_170 + 1 → (xsh (s_170 269 34) q % 2 = 1 ∧ xsh (s0 269 34) q % 2 = 1 ∧ (K9 (s0 269 q) = 0 ∨ K9 (s0 269 q) = 2)) ∨ (xsh (s_170 269 34) q % 2 = 0 ∧ ¬ (xsh (s0 269 34) q % 2 = 1 ∧ (K9 (s0 269 q) = 0 ∨ K9 (s0 269 q) = 2))) := fun hv q q1 q2 => by
                          by_cases h : q = i4_170
                          · subst h
                            have y := v170_5 _ (Int.le_refl _) (by omega)
                            omega
                          · exact v170_4 q q1 (by omega)
                        refine x_if_eq (tgt := 222) hx hb rx129 dX11_market_182 (by decide) (fun c132 => ?_) (fun c132 => ?_)
                        · skip
                          refine x_iinc (lv' := [(4, .int (xJ (i4_170 + 1))), (0, .ref (h0 + 268)), (3, .int (xJ i3_122))]) hx hb hl 2 rfl dX11_market_222 (by decide) rfl (fun ls hl => ?_)
                          refine lv_goto (tgt := 170) hx hb dX11_market_225 (by decide) ?_
                          exact ih170 (i4_170 + 1) s_170 H locs ls (by omega) hF_170 q170_0 q170_1 q170_2 q170_3 q170_4 q170_6 q170_7 q170_8 q170_9 q170_10 q170_11 q170_12 (by omega) (by omega) (by first | exact v170_2 | (rw [es_170, xU_k _ _ _ (by first | decide | omega), xU_k _ _ _ (by first | decide | omega)]; exact v170_2)) (by first | exact v170_3 | (rw [X221]; exact (znd_b v170_3 L221).1)) (by first | exact M221 | exact M195 (by omega) | exact M179 (by omega)) (by first | exact N221 | exact fun q q1 q2 => v170_5 q (by omega) q2) (by have hm := hm_170 (); omega) hW (lv_sub hl [1, 2, 0] rfl)
                        refine x_aload_n hx hb hl 0 rfl dX11_market_185 rfl ?_
                        refine x_aload_n hx hb hl 0 rfl dX11_market_186 rfl ?_
                        refine x_get (j := 0) (v := .ref (h0 + 269)) hx hb hown hT hE hW cls_X11 (Or.inl (by decide)) (so_268 h0 g _) (by decide) rfl wq1185 dX11_market_187 ?_
                        refine x_iconst hx hb dX11_market_190 ?_
                        refine x_iload hx hb hl 2 rfl dX11_market_191 ?_
                        refine x_iadd hx hb dX11_market_193 ?_
                        refine x_iald hx hb hE hW (Or.inl (by decide)) (sa_269 h0 g _) (by omega) (by decide) dX11_market_194 ?_
                        refine x_rd hW (fun x133 ex133 rx133 => ?_)
                        have bx133 : 0 ≤ x133 ∧ x133 ≤ 99 := by rw [ex133]; exact (IMn.n1 q170_6).1 _ (by omega) (by omega)
                        have V194 : x133 = s0 269 i4_170 := ex133.trans (by
                          rw [show (0 + i4_170 : Int) = i4_170 from by omega]
                          rcases (by omega : i4_170 = 0 ∨ i4_170 = 1) with h | h <;> (rw [h]; omega))
                        refine x_goi (x_runV (As := [.int (xJ x133)]) hx hb hml hown hT hE hW hl.1 (Or.inl (by decide)) (so_268 h0 g _) rfl cf_X11_isGround wq1419 wq110 wq1417 (c_X11_isGroundM l D g T h0 s_170 hW.2.1 x133 rx133 (by omega) q170_6 q170_7 q170_8) ⟨rfl, rfl, ⟨by decide, by decide⟩, ⟨by decide, by decide⟩⟩ rfl rfl (Nat.le_of_ble_eq_true rfl) dX11_market_195) hW (fun x134 s135 H locs rx134 hp136 hW => ?_)
                        obtain ⟨es135, hp136⟩ := hp136
                        subst es135
                        have ghp136 := hp136
                        have H195 := ghp136
                        rw [V194, v170_2.1] at H195
                        have G195 : s_122 272 (s0 269 i4_170) = K9 (s0 269 i4_170) := v122_3 _ (by omega) (by omega)
                        have M195 : x134 ≠ 0 → ∀ q : Int, 0 ≤ q → q < i4_170 + 1 → (xsh (s_170 269 34) q % 2 = 1 ∧ xsh (s0 269 34) q % 2 = 1 ∧ (K9 (s0 269 q) = 0 ∨ K9 (s0 269 q) = 2)) ∨ (xsh (s_170 269 34) q % 2 = 0 ∧ ¬ (xsh (s0 269 34) q % 2 = 1 ∧ (K9 (s0 269 q) = 0 ∨ K9 (s0 269 q) = 2))) := fun hv q q1 q2 => by
                          by_cases h : q = i4_170
                          · subst h
                            have y := v170_5 _ (Int.le_refl _) (by omega)
                            omega
                          · exact v170_4 q q1 (by omega)
                        refine x_if_ne (tgt := 222) hx hb rx134 dX11_market_198 (by decide) (fun c137 => ?_) (fun c137 => ?_)
                        · skip
                          refine x_iinc (lv' := [(4, .int (xJ (i4_170 + 1))), (0, .ref (h0 + 268)), (3, .int (xJ i3_122))]) hx hb hl 2 rfl dX11_market_222 (by decide) rfl (fun ls hl => ?_)
                          refine lv_goto (tgt := 170) hx hb dX11_market_225 (by decide) ?_
                          exact ih170 (i4_170 + 1) s_170 H locs ls (by omega) hF_170 q170_0 q170_1 q170_2 q170_3 q170_4 q170_6 q170_7 q170_8 q170_9 q170_10 q170_11 q170_12 (by omega) (by omega) (by first | exact v170_2 | (rw [es_170, xU_k _ _ _ (by first | decide | omega), xU_k _ _ _ (by first | decide | omega)]; exact v170_2)) (by first | exact v170_3 | (rw [X221]; exact (znd_b v170_3 L221).1)) (by first | exact M221 | exact M195 (by omega) | exact M179 (by omega)) (by first | exact N221 | exact fun q q1 q2 => v170_5 q (by omega) q2) (by have hm := hm_170 (); omega) hW (lv_sub hl [1, 2, 0] rfl)
                        refine x_aload_n hx hb hl 0 rfl dX11_market_201 rfl ?_
                        refine x_get (j := 0) (v := .ref (h0 + 269)) hx hb hown hT hE hW cls_X11 (Or.inl (by decide)) (so_268 h0 g _) (by decide) rfl wq1185 dX11_market_202 ?_
                        refine x_bipush hx hb dX11_market_205 (by decide) ?_
                        refine x_aload_n hx hb hl 0 rfl dX11_market_207 rfl ?_
                        refine x_get (j := 0) (v := .ref (h0 + 269)) hx hb hown hT hE hW cls_X11 (Or.inl (by decide)) (so_268 h0 g _) (by decide) rfl wq1185 dX11_market_208 ?_
                        refine x_bipush hx hb dX11_market_211 (by decide) ?_
                        refine x_iald hx hb hE hW (Or.inl (by decide)) (sa_269 h0 g _) ⟨by decide, by decide⟩ (by decide) dX11_market_213 ?_
                        refine x_rd hW (fun x138 ex138 rx138 => ?_)
                        have V213 : x138 = s_170 269 34 := ex138
                        refine x_iconst hx hb dX11_market_214 ?_
                        refine x_iload hx hb hl 2 rfl dX11_market_215 ?_
                        refine lv_ishl hx hb dX11_market_217 ?_
                        refine x_anyE (fun x139 ex139 rx139 => ?_)
                        have V217 := ex139
                        refine x_iconst hx hb dX11_market_218 ?_
                        refine lv_ixor hx hb dX11_market_219 ?_
                        refine x_anyE (fun x140 ex140 rx140 => ?_)
                        have V219 := ex140
                        refine lv_iand hx hb dX11_market_220 ?_
                        refine x_anyE (fun x141 ex141 rx141 => ?_)
                        have V220 : x141 = znd (s_170 269 34) i4_170 := by
                          rw [← V213]
                          exact znd_j (by omega) (by omega) V217 V219 rx141 ex141
                        refine x_iast hx hb hE hW (by decide) (fun σ => sa_269 h0 g σ) ⟨by decide, by decide⟩ (by decide) rx141 dX11_market_221 (fun H locs s142 es142 hW => ?_)
                        have q143 : s142 269 37 = s0 269 37 := (show s142 269 37 = s_170 269 37 from by rw [es142, xU_j _ _ (by decide)]).trans q170_0
                        have q144 : s142 269 0 = s0 269 0 := (show s142 269 0 = s_170 269 0 from by rw [es142, xU_j _ _ (by decide)]).trans q170_1
                        have q145 : s142 269 1 = s0 269 1 := (show s142 269 1 = s_170 269 1 from by rw [es142, xU_j _ _ (by decide)]).trans q170_2
                        have q146 : s142 269 2 = s0 269 2 := (show s142 269 2 = s_170 269 2 from by rw [es142, xU_j _ _ (by decide)]).trans q170_3
                        have q147 : s142 269 3 = s0 269 3 := (show s142 269 3 = s_170 269 3 from by rw [es142, xU_j _ _ (by decide)]).trans q170_4
                        have q148 : IMn s142 := by rw [es142]; exact IMn_N269 q170_6 (by omega)
                        have q149 : IMk s142 := by rw [es142]; exact IMk_o (by unfold suIMk; first | decide | omega) q170_7
                        have q150 : IMo s142 := by rw [es142]; exact IMo_o (by unfold suIMo; first | decide | omega) q170_8
                        have q151 : IR s142 := by rw [es142]; exact IR_o (by unfold suIR; first | decide | omega) q170_9
                        have q152 : s142 268 8 = 0 := (show s142 268 8 = s_170 268 8 from by rw [es142, xU_k _ _ _ (by first | decide | omega)]).trans q170_10
                        have q153 : s142 268 58 = s0 268 58 := (show s142 268 58 = s_170 268 58 from by rw [es142, xU_k _ _ _ (by first | decide | omega)]).trans q170_11
                        have q154 : s142 268 10 = n := (show s142 268 10 = s_170 268 10 from by rw [es142, xU_k _ _ _ (by first | decide | omega)]).trans q170_12
                        have hF155 := hF_170.put es142 (by omega)
                        have E221 := es142
                        have X221 : s142 269 34 = znd (s_170 269 34) i4_170 := by rw [E221, xU_s]; exact V220
                        have L221 : 0 ≤ i4_170 ∧ i4_170 < 2 := by omega
                        have M221 : ∀ q : Int, 0 ≤ q → q < i4_170 + 1 → (xsh (s142 269 34) q % 2 = 1 ∧ xsh (s0 269 34) q % 2 = 1 ∧ (K9 (s0 269 q) = 0 ∨ K9 (s0 269 q) = 2)) ∨ (xsh (s142 269 34) q % 2 = 0 ∧ ¬ (xsh (s0 269 34) q % 2 = 1 ∧ (K9 (s0 269 q) = 0 ∨ K9 (s0 269 q) = 2))) := fun q q1 q2 => by
                          by_cases h : q = i4_170
                          · subst h
                            exact Or.inr ⟨by rw [X221]; exact (znd_q v170_3 L221 L221).1 rfl, by omega⟩
                          · rw [X221, (znd_q v170_3 L221 ⟨q1, by omega⟩).2 h]
                            exact v170_4 q q1 (by omega)
                        have N221 : ∀ q : Int, i4_170 + 1 ≤ q → q < 2 → xsh (s142 269 34) q % 2 = xsh (s0 269 34) q % 2 := fun q q1 q2 => by
                          rw [X221, (znd_q v170_3 L221 ⟨by omega, q2⟩).2 (by omega)]
                          exact v170_5 q (by omega) q2
                        refine x_iinc (lv' := [(4, .int (xJ (i4_170 + 1))), (0, .ref (h0 + 268)), (3, .int (xJ i3_122))]) hx hb hl 2 rfl dX11_market_222 (by decide) rfl (fun ls hl => ?_)
                        refine lv_goto (tgt := 170) hx hb dX11_market_225 (by decide) ?_
                        exact ih170 (i4_170 + 1) s142 H locs ls (by omega) hF155 q143 q144 q145 q146 q147 q148 q149 q150 q151 q152 q153 q154 (by omega) (by omega) (by first | exact v170_2 | (rw [es142, xU_k _ _ _ (by first | decide | omega), xU_k _ _ _ (by first | decide | omega)]; exact v170_2)) (by first | exact v170_3 | (rw [X221]; exact (znd_b v170_3 L221).1)) (by first | exact M221 | exact M195 (by omega) | exact M179 (by omega)) (by first | exact N221 | exact fun q q1 q2 => v170_5 q (by omega) q2) (by have hm := hm_170 (); omega) hW (lv_sub hl [1, 2, 0] rfl)
                    exact L170 ((2 + 1 - 0 : Int).toNat + 1) 0 s_122 H locs ls (by decide) hF_122 q122_0 q122_1 q122_2 q122_3 q122_4 q122_6 q122_7 q122_8 q122_9 q122_10 q122_11 q122_12 (by omega) (by omega) (⟨rfl, v122_2⟩) (by omega) (fun q q1 q2 => absurd q2 (by omega)) (fun q q1 q2 => by rw [show s_122 269 34 = s0 269 34 from by omega]) (Nat.lt_succ_self _) hW (lv_sub hl [1, 2, 0] rfl)
                  refine x_aload_n hx hb hl 0 rfl dX11_market_129 rfl ?_
                  refine x_get (j := 3) (v := .ref (h0 + 272)) hx hb hown hT hE hW cls_X11 (Or.inl (by decide)) (so_268 h0 g _) (by decide) rfl wq1188 dX11_market_130 ?_
                  refine x_iload hx hb hl 2 rfl dX11_market_133 ?_
                  refine x_aload_n hx hb hl 0 rfl dX11_market_135 rfl ?_
                  refine x_get (j := 29) (v := .ref (h0 + 288)) hx hb hown hT hE hW cls_X11 (Or.inl (by decide)) (so_268 h0 g _) (by decide) rfl wq1214 dX11_market_136 ?_
                  refine x_iload hx hb hl 2 rfl dX11_market_139 ?_
                  refine x_iald hx hb hE hW (Or.inl (by decide)) (sa_288 h0 g _) (by omega) (by decide) dX11_market_141 ?_
                  refine x_rd hW (fun x156 ex156 rx156 => ?_)
                  have R141 := ex156
                  refine x_iast hx hb hE hW (by decide) (fun σ => sa_272 h0 g σ) (by omega) (by decide) rx156 dX11_market_142 (fun H locs s157 es157 hW => ?_)
                  have q158 : s157 269 37 = s0 269 37 := (show s157 269 37 = s_122 269 37 from by rw [es157, xU_k _ _ _ (by first | decide | omega)]).trans q122_0
                  have q159 : s157 269 0 = s0 269 0 := (show s157 269 0 = s_122 269 0 from by rw [es157, xU_k _ _ _ (by first | decide | omega)]).trans q122_1
                  have q160 : s157 269 1 = s0 269 1 := (show s157 269 1 = s_122 269 1 from by rw [es157, xU_k _ _ _ (by first | decide | omega)]).trans q122_2
                  have q161 : s157 269 2 = s0 269 2 := (show s157 269 2 = s_122 269 2 from by rw [es157, xU_k _ _ _ (by first | decide | omega)]).trans q122_3
                  have q162 : s157 269 3 = s0 269 3 := (show s157 269 3 = s_122 269 3 from by rw [es157, xU_k _ _ _ (by first | decide | omega)]).trans q122_4
                  have q163 : s157 269 34 = s0 269 34 := (show s157 269 34 = s_122 269 34 from by rw [es157, xU_k _ _ _ (by first | decide | omega)]).trans q122_5
                  have q164 : IMn s157 := by rw [es157]; exact IMn_o (by unfold suIMn; first | decide | omega) q122_6
                  have q165 : IMk s157 := by rw [es157]; exact IMk_o (by unfold suIMk; first | decide | omega) q122_7
                  have q166 : IMo s157 := by rw [es157]; exact IMo_o (by unfold suIMo; first | decide | omega) q122_8
                  have q167 : IR s157 := by rw [es157]; exact IR_o (by unfold suIR; first | decide | omega) q122_9
                  have q168 : s157 268 8 = 0 := (show s157 268 8 = s_122 268 8 from by rw [es157, xU_k _ _ _ (by first | decide | omega)]).trans q122_10
                  have q169 : s157 268 58 = s0 268 58 := (show s157 268 58 = s_122 268 58 from by rw [es157, xU_k _ _ _ (by first | decide | omega)]).trans q122_11
                  have q170 : s157 268 10 = n := (show s157 268 10 = s_122 268 10 from by rw [es157, xU_k _ _ _ (by first | decide | omega)]).trans q122_12
                  have hF171 := hF_122.put es157 (by omega)
                  have E142 := es157
                  refine x_iload_n hx hb hl 1 rfl dX11_market_143 rfl ?_
                  refine x_aload_n hx hb hl 0 rfl dX11_market_144 rfl ?_
                  refine x_get (j := 3) (v := .ref (h0 + 272)) hx hb hown hT hE hW cls_X11 (Or.inl (by decide)) (so_268 h0 g _) (by decide) rfl wq1188 dX11_market_145 ?_
                  refine x_iload hx hb hl 2 rfl dX11_market_148 ?_
                  refine x_iald hx hb hE hW (Or.inl (by decide)) (sa_272 h0 g _) (by omega) (by decide) dX11_market_150 ?_
                  refine x_rd hW (fun x172 ex172 rx172 => ?_)
                  have U150 : x172 = K9 i4_122 := by rw [ex172, E142, xU_s, R141, v122_2]
                  refine x_if_ne (tgt := 158) hx hb rx172 dX11_market_151 (by decide) (fun c173 => ?_) (fun c173 => ?_)
                  · skip
                    refine x_iconst hx hb dX11_market_158 ?_
                    refine x_iadd hx hb dX11_market_159 ?_
                    refine x_nm (fun x174 ex174 => ?_)
                    refine lv_istore_n (lv' := [(3, .int (xJ x174)), (0, .ref (h0 + 268)), (4, .int (xJ i4_122))]) hx hb dX11_market_160 rfl hl (by decide) rfl (fun ls hl => ?_)
                    refine x_iinc (lv' := [(4, .int (xJ (i4_122 + 1))), (3, .int (xJ x174)), (0, .ref (h0 + 268))]) hx hb hl 2 rfl dX11_market_161 (by decide) rfl (fun ls hl => ?_)
                    refine lv_goto (tgt := 122) hx hb dX11_market_164 (by decide) ?_
                    exact ih122 x174 (i4_122 + 1) s157 H locs ls (by omega) (by omega) hF171 q158 q159 q160 q161 q162 q163 q164 q165 q166 q167 q168 q169 q170 (by omega) (by first | (rw [zct_n (by omega) (by omega)]; omega) | (rw [zct_y (by omega) (by omega)]; omega)) (by rw [E142, xU_k _ _ _ (by first | decide | omega)]; exact v122_2) (fun q q1 q2 => (Classical.em (q < i4_122)).elim (fun h => by rw [E142, xU_j _ _ (by omega)]; exact v122_3 q q1 h) (fun h => by rw [show q = i4_122 from by omega, E142, xU_s, R141, v122_2])) (by omega) (by have hm := hm_122 (); omega) hW (lv_sub hl [2, 1, 0] rfl)
                  refine x_iconst hx hb dX11_market_154 ?_
                  refine lv_goto (tgt := 159) hx hb dX11_market_155 (by decide) ?_
                  refine x_iadd hx hb dX11_market_159 ?_
                  refine x_nm (fun x175 ex175 => ?_)
                  refine lv_istore_n (lv' := [(3, .int (xJ x175)), (0, .ref (h0 + 268)), (4, .int (xJ i4_122))]) hx hb dX11_market_160 rfl hl (by decide) rfl (fun ls hl => ?_)
                  refine x_iinc (lv' := [(4, .int (xJ (i4_122 + 1))), (3, .int (xJ x175)), (0, .ref (h0 + 268))]) hx hb hl 2 rfl dX11_market_161 (by decide) rfl (fun ls hl => ?_)
                  refine lv_goto (tgt := 122) hx hb dX11_market_164 (by decide) ?_
                  exact ih122 x175 (i4_122 + 1) s157 H locs ls (by omega) (by omega) hF171 q158 q159 q160 q161 q162 q163 q164 q165 q166 q167 q168 q169 q170 (by omega) (by first | (rw [zct_n (by omega) (by omega)]; omega) | (rw [zct_y (by omega) (by omega)]; omega)) (by rw [E142, xU_k _ _ _ (by first | decide | omega)]; exact v122_2) (fun q q1 q2 => (Classical.em (q < i4_122)).elim (fun h => by rw [E142, xU_j _ _ (by omega)]; exact v122_3 q q1 h) (fun h => by rw [show q = i4_122 from by omega, E142, xU_s, R141, v122_2])) (by omega) (by have hm := hm_122 (); omega) hW (lv_sub hl [2, 1, 0] rfl)
              exact L122 ((100 - 0 : Int).toNat + 1) 0 0 s47 H locs ls (by decide) (by decide) hF61 q48 q49 q50 q51 q52 q53 q54 q55 q56 q57 q58 q59 q60 (by omega) (rfl) (eK9.symm) (fun q q1 q2 => absurd q2 (by omega)) (by omega) (Nat.lt_succ_self _) hW (lv_sub hl [2, 1, 0] rfl)
            refine x_aload_n hx hb hl 0 rfl dX11_market_112 rfl ?_
            refine x_get (j := 11) (v := .int (xJ (s47 268 11))) hx hb hown hT hE hW cls_X11 (Or.inl (by decide)) (so_268 h0 g _) (by decide) rfl wq1196 dX11_market_113 ?_
            refine x_rd hW (fun x176 ex176 rx176 => ?_)
            rw [eQ]
            exact x_iret hx hb hr hlk hW rx176 ⟨hF61, ⟨q54, q55, q56, q48, q49, q50, q51, q52, trivial⟩, by
                have z := R105.resolve_left (fun q => by omega)
                exact Or.inr ⟨by omega, by omega, eK9.symm.trans z.2.2.2.symm, Or.inl ⟨z.2.1, by omega, Q105, by omega, by omega⟩⟩⟩ dX11_market_116
          refine x_if_eq (tgt := 103) hx hb ri2_39 dX11_market_79 (by decide) (fun c177 => ?_) (fun c177 => ?_)
          · skip
            exact J103 i2_39 s_39 H locs ls ri2_39 hF_39 q39_0 q39_1 q39_2 q39_3 q39_4 q39_5 q39_6 q39_7 q39_8 q39_9 q39_10 q39_11 q39_12 (by first | exact Or.inr (v39_1.resolve_left (fun q => by omega)) | exact B86 (by omega) (by omega) | exact B99) (by first | exact v39_2 | exact Q99) hW (lv_sub hl [0, 1] rfl)
          refine x_aload_n hx hb hl 0 rfl dX11_market_82 rfl ?_
          refine x_get (j := 9) (v := .int (xJ (s_39 268 9))) hx hb hown hT hE hW cls_X11 (Or.inl (by decide)) (so_268 h0 g _) (by decide) rfl wq1194 dX11_market_83 ?_
          refine x_rd hW (fun x178 ex178 rx178 => ?_)
          have bx178 : 0 ≤ x178 ∧ x178 ≤ s_39 268 10 ∧ s_39 268 10 ≤ 240 := by rw [ex178]; exact q39_9
          have B86 : i2_39 = 1 → n ≤ x178 → (i2_39 = 1 ∧ (zMk (xm8 (s0 276)) n (s0 288)).1 = 0 ∧ (zMk (xm8 (s0 276)) n (s0 288)).2.2 = s_39 288) ∨ (i2_39 = 0 ∧ (zMk (xm8 (s0 276)) n (s0 288)).1 ≠ 0 ∧ s_39 268 11 = (zMk (xm8 (s0 276)) n (s0 288)).1 ∧ (zMk (xm8 (s0 276)) n (s0 288)).2.2 = s_39 288) := fun h1 h2 => by
            have z := (v39_1.resolve_right (fun q => by omega)).2.trans (zM_end (by omega))
            rw [if_neg (by omega)] at z
            rw [z]
            exact Or.inl ⟨h1, rfl, rfl⟩
          refine x_aload_n hx hb hl 0 rfl dX11_market_86 rfl ?_
          refine x_get (j := 10) (v := .int (xJ (s_39 268 10))) hx hb hown hT hE hW cls_X11 (Or.inl (by decide)) (so_268 h0 g _) (by decide) rfl wq1195 dX11_market_87 ?_
          refine x_rd hW (fun x179 ex179 rx179 => ?_)
          have fx179 : x179 = n := ex179.trans q39_12
          refine x_icmp_ge (tgt := 103) hx hb rx178 rx179 dX11_market_90 (by decide) (fun c180 => ?_) (fun c180 => ?_)
          · skip
            exact J103 i2_39 s_39 H locs ls ri2_39 hF_39 q39_0 q39_1 q39_2 q39_3 q39_4 q39_5 q39_6 q39_7 q39_8 q39_9 q39_10 q39_11 q39_12 (by first | exact Or.inr (v39_1.resolve_left (fun q => by omega)) | exact B86 (by omega) (by omega) | exact B99) (by first | exact v39_2 | exact Q99) hW (lv_sub hl [0, 1] rfl)
          refine x_aload_n hx hb hl 0 rfl dX11_market_93 rfl ?_
          refine x_iconst hx hb dX11_market_94 ?_
          refine x_aload_n hx hb hl 0 rfl dX11_market_95 rfl ?_
          refine x_get (j := 9) (v := .int (xJ (s_39 268 9))) hx hb hown hT hE hW cls_X11 (Or.inl (by decide)) (so_268 h0 g _) (by decide) rfl wq1194 dX11_market_96 ?_
          refine x_rd hW (fun x181 ex181 rx181 => ?_)
          have bx181 : 0 ≤ x181 ∧ x181 ≤ s_39 268 10 ∧ s_39 268 10 ≤ 240 := by rw [ex181]; exact q39_9
          refine x_goi (x_runV (As := [.int (xJ 1), .int (xJ x181)]) hx hb hml hown hT hE hW hl.1 (Or.inl (by decide)) (so_268 h0 g _) rfl cf_X11_wrongAt wq1401 wq107 wq1399 (c_X11_wrongAtM l D g T h0 s_39 hW.2.1 1 (by decide) x181 rx181 (by omega) q39_6 q39_7 q39_8 q39_9) ⟨rfl, rfl, ⟨by decide, by decide⟩, ⟨by decide, by decide⟩⟩ rfl rfl (Nat.le_of_ble_eq_true rfl) dX11_market_99) hW (fun x182 s183 H locs rx182 hp184 hW => ?_)
          obtain ⟨fs183, hp184⟩ := hp184
          have hF185 := hF_39.call fs183 (fun k h => by omega)
          have q186 : s183 269 37 = s0 269 37 := (congrFun (fs183 _ (by omega)) _).trans q39_0
          have q187 : s183 269 0 = s0 269 0 := (congrFun (fs183 _ (by omega)) _).trans q39_1
          have q188 : s183 269 1 = s0 269 1 := (congrFun (fs183 _ (by omega)) _).trans q39_2
          have q189 : s183 269 2 = s0 269 2 := (congrFun (fs183 _ (by omega)) _).trans q39_3
          have q190 : s183 269 3 = s0 269 3 := (congrFun (fs183 _ (by omega)) _).trans q39_4
          have q191 : s183 269 34 = s0 269 34 := (congrFun (fs183 _ (by omega)) _).trans q39_5
          have ghp184 := hp184.2
          have Q99 : s183 272 = s0 272 := (fs183 272 (by first | decide | omega)).trans v39_2
          have B99 : (x182 = 1 ∧ (zMk (xm8 (s0 276)) n (s0 288)).1 = 0 ∧ (zMk (xm8 (s0 276)) n (s0 288)).2.2 = s183 288) ∨ (x182 = 0 ∧ (zMk (xm8 (s0 276)) n (s0 288)).1 ≠ 0 ∧ s183 268 11 = (zMk (xm8 (s0 276)) n (s0 288)).1 ∧ (zMk (xm8 (s0 276)) n (s0 288)).2.2 = s183 288) := by
            have z := (v39_1.resolve_right (fun q => by omega)).2.trans (zM_end (by omega))
            rw [if_pos (by omega)] at z
            rw [z]
            exact Or.inr ⟨by omega, (by show (-1000 - _ : Int) ≠ 0; omega), (by show _ = (-1000 - _ : Int); omega), (fs183 288 (by first | decide | omega)).symm⟩
          refine lv_istore_n (lv' := [(2, .int (xJ x182)), (0, .ref (h0 + 268))]) hx hb dX11_market_102 rfl hl (by decide) rfl (fun ls hl => ?_)
          exact J103 x182 s183 H locs ls rx182 hF185 q186 q187 q188 q189 q190 q191 hp184.1.1 hp184.1.2.1 hp184.1.2.2.1 hp184.1.2.2.2.1 (hp184.1.2.2.2.2.1.trans q39_10) (hp184.1.2.2.2.2.2.1.trans q39_11) (hp184.1.2.2.2.2.2.2.1.trans q39_12) (by first | exact Or.inr (v39_1.resolve_left (fun q => by omega)) | exact B86 (by omega) (by omega) | exact B99) (by first | exact v39_2 | exact Q99) hW (lv_sub hl [1, 0] rfl)
        refine x_icmp_ge (tgt := 78) hx hb ri3_39 (by decide) dX11_market_42 (by decide) (fun c192 => ?_) (fun c192 => ?_)
        · skip
          exact J78 ls (by omega)  (lv_sub hl [0, 1] rfl)
        refine x_iload_n hx hb hl 1 rfl dX11_market_45 rfl ?_
        refine x_if_eq (tgt := 78) hx hb ri2_39 dX11_market_46 (by decide) (fun c193 => ?_) (fun c193 => ?_)
        · skip
          exact J78 ls (by omega)  (lv_sub hl [0, 1] rfl)
        refine x_aload_n hx hb hl 0 rfl dX11_market_49 rfl ?_
        refine x_bipush hx hb dX11_market_50 (by decide) ?_
        refine x_goi (x_runV (As := [.int (xJ 47)]) hx hb hml hown hT hE hW hl.1 (Or.inl (by decide)) (so_268 h0 g _) rfl cf_X11_takes wq1405 wq108 wq1403 (c_X11_takesM l D g T h0 s_39 hW.2.1 47 (by decide) (by omega) q39_6 q39_7 q39_8 q39_9) ⟨rfl, rfl, ⟨by decide, by decide⟩, ⟨by decide, by decide⟩⟩ rfl rfl (Nat.le_of_ble_eq_true rfl) dX11_market_52) hW (fun x194 s195 H locs rx194 hp196 hW => ?_)
        obtain ⟨fs195, hp196⟩ := hp196
        have hF197 := hF_39.call fs195 (fun k h => by omega)
        have q198 : s195 269 37 = s0 269 37 := (congrFun (fs195 _ (by omega)) _).trans q39_0
        have q199 : s195 269 0 = s0 269 0 := (congrFun (fs195 _ (by omega)) _).trans q39_1
        have q200 : s195 269 1 = s0 269 1 := (congrFun (fs195 _ (by omega)) _).trans q39_2
        have q201 : s195 269 2 = s0 269 2 := (congrFun (fs195 _ (by omega)) _).trans q39_3
        have q202 : s195 269 3 = s0 269 3 := (congrFun (fs195 _ (by omega)) _).trans q39_4
        have q203 : s195 269 34 = s0 269 34 := (congrFun (fs195 _ (by omega)) _).trans q39_5
        have ghp196 := hp196.2
        have W52 := ghp196
        have C52 : zhC s_39 = zch (xm8 (s0 276)) n (s_39 268 9) := by
          have z := zhC_ch s_39
          rw [hF_39 276 (by first | decide | omega), show s_39 268 10 = n from by omega] at z
          exact z
        have Q52 : s195 288 = s_39 288 ∧ s195 272 = s0 272 := ⟨fs195 288 (by first | decide | omega), (fs195 272 (by first | decide | omega)).trans v39_2⟩
        have G52 : s195 276 = s0 276 := hF197 276 (by first | decide | omega)
        have N52 : s195 268 10 = n := by omega
        have P52 : x194 ≠ 0 → s195 268 9 = s_39 268 9 + 1 := fun h => by omega
        have B52 : x194 = 0 → ((0 : Int) = 1 ∧ zMk (xm8 (s0 276)) n (s0 288) = zM (xm8 (s0 276)) n (10 - (i3_39 + 1)).toNat (i3_39 + 1) (s195 268 9) (s195 288)) ∨ ((0 : Int) = 0 ∧ (zMk (xm8 (s0 276)) n (s0 288)).1 ≠ 0 ∧ s195 268 11 = (zMk (xm8 (s0 276)) n (s0 288)).1 ∧ (zMk (xm8 (s0 276)) n (s0 288)).2.2 = s195 288) := fun hv => by
          have z := (v39_1.resolve_right (fun q => by omega)).2.trans (zM_no (by omega) (by omega))
          rw [z]
          exact Or.inr ⟨rfl, (by show (-1000 - _ : Int) ≠ 0; omega), (by show _ = (-1000 - _ : Int); omega), Q52.1.symm⟩
        refine x_if_eq (tgt := 70) hx hb rx194 dX11_market_55 (by decide) (fun c204 => ?_) (fun c204 => ?_)
        · skip
          refine x_iconst hx hb dX11_market_70 ?_
          refine lv_istore_n (lv' := [(2, .int (xJ 0)), (0, .ref (h0 + 268)), (3, .int (xJ i3_39))]) hx hb dX11_market_71 rfl hl (by decide) rfl (fun ls hl => ?_)
          refine x_iinc (lv' := [(3, .int (xJ (i3_39 + 1))), (2, .int (xJ 0)), (0, .ref (h0 + 268))]) hx hb hl 2 rfl dX11_market_72 (by decide) rfl (fun ls hl => ?_)
          refine lv_goto (tgt := 39) hx hb dX11_market_75 (by decide) ?_
          exact ih39 0 (i3_39 + 1) s195 H locs ls (by decide) (by omega) hF197 q198 q199 q200 q201 q202 q203 hp196.1.1 hp196.1.2.1 hp196.1.2.2.1 hp196.1.2.2.2.1 (hp196.1.2.2.2.2.1.trans q39_10) (hp196.1.2.2.2.2.2.1.trans q39_11) (hp196.1.2.2.2.2.2.2.1.trans q39_12) (by omega) (by first | exact Or.inl ⟨rfl, (v39_1.resolve_right (fun q => by omega)).2.trans (zM_row_ok (by omega) (by omega) (D60.resolve_right (fun q => by omega)).2 (by omega) rfl rfl rfl)⟩ | exact B60 (by omega) (by omega) | exact B52 (by omega)) (by first | exact K60 | exact Q52.2) (by have hm := hm_39 (); omega) hW (lv_sub hl [2, 1, 0] rfl)
        refine x_aload_n hx hb hl 0 rfl dX11_market_58 rfl ?_
        refine x_iload_n hx hb hl 2 rfl dX11_market_59 rfl ?_
        refine x_goi (x_runV (As := [.int (xJ i3_39)]) hx hb hml hown hT hE hW hl.1 (Or.inl (by decide)) (so_268 h0 g _) rfl cf_X11_readsRow wq1387 wq105 wq1385 (c_X11_readsRowM l D g T h0 s195 hW.2.1 i3_39 ri3_39 (by omega) hp196.1.1 hp196.1.2.1 hp196.1.2.2.1 hp196.1.2.2.2.1) ⟨rfl, rfl, ⟨by decide, by decide⟩, ⟨by decide, by decide⟩⟩ rfl rfl (Nat.le_of_ble_eq_true rfl) dX11_market_60) hW (fun x205 s206 H locs rx205 hp207 hW => ?_)
        obtain ⟨fs206, hp207⟩ := hp207
        have hF208 := hF197.call fs206 (fun k h => by omega)
        have q209 : s206 269 37 = s0 269 37 := (congrFun (fs206 _ (by omega)) _).trans q198
        have q210 : s206 269 0 = s0 269 0 := (congrFun (fs206 _ (by omega)) _).trans q199
        have q211 : s206 269 1 = s0 269 1 := (congrFun (fs206 _ (by omega)) _).trans q200
        have q212 : s206 269 2 = s0 269 2 := (congrFun (fs206 _ (by omega)) _).trans q201
        have q213 : s206 269 3 = s0 269 3 := (congrFun (fs206 _ (by omega)) _).trans q202
        have q214 : s206 269 34 = s0 269 34 := (congrFun (fs206 _ (by omega)) _).trans q203
        have ghp207 := hp207.2
        have R60 := ghp207
        rw [G52, N52, Q52.1, P52 (by omega)] at R60
        have D60 := R60.cs
        have K60 : s206 272 = s0 272 := (fs206 272 (by first | decide | omega)).trans Q52.2
        have B60 : x205 = 0 → 0 < 10 - i3_39 → ((0 : Int) = 1 ∧ zMk (xm8 (s0 276)) n (s0 288) = zM (xm8 (s0 276)) n (10 - (i3_39 + 1)).toNat (i3_39 + 1) (s206 268 9) (s206 288)) ∨ ((0 : Int) = 0 ∧ (zMk (xm8 (s0 276)) n (s0 288)).1 ≠ 0 ∧ s206 268 11 = (zMk (xm8 (s0 276)) n (s0 288)).1 ∧ (zMk (xm8 (s0 276)) n (s0 288)).2.2 = s206 288) := fun hv _ => by
          obtain ⟨d1, d2, d3, d4⟩ := D60.resolve_left (fun q => by omega)
          have z := (v39_1.resolve_right (fun q => by omega)).2.trans (zM_row_bad (by omega) (by omega) d2)
          rw [z]
          exact Or.inr ⟨rfl, d2, d3, d4⟩
        refine x_if_eq (tgt := 70) hx hb rx205 dX11_market_63 (by decide) (fun c215 => ?_) (fun c215 => ?_)
        · skip
          refine x_iconst hx hb dX11_market_70 ?_
          refine lv_istore_n (lv' := [(2, .int (xJ 0)), (0, .ref (h0 + 268)), (3, .int (xJ i3_39))]) hx hb dX11_market_71 rfl hl (by decide) rfl (fun ls hl => ?_)
          refine x_iinc (lv' := [(3, .int (xJ (i3_39 + 1))), (2, .int (xJ 0)), (0, .ref (h0 + 268))]) hx hb hl 2 rfl dX11_market_72 (by decide) rfl (fun ls hl => ?_)
          refine lv_goto (tgt := 39) hx hb dX11_market_75 (by decide) ?_
          exact ih39 0 (i3_39 + 1) s206 H locs ls (by decide) (by omega) hF208 q209 q210 q211 q212 q213 q214 hp207.1.1 hp207.1.2.1 hp207.1.2.2.1 hp207.1.2.2.2.1 (hp207.1.2.2.2.2.1.trans (hp196.1.2.2.2.2.1.trans q39_10)) (hp207.1.2.2.2.2.2.1.trans (hp196.1.2.2.2.2.2.1.trans q39_11)) (hp207.1.2.2.2.2.2.2.1.trans (hp196.1.2.2.2.2.2.2.1.trans q39_12)) (by omega) (by first | exact Or.inl ⟨rfl, (v39_1.resolve_right (fun q => by omega)).2.trans (zM_row_ok (by omega) (by omega) (D60.resolve_right (fun q => by omega)).2 (by omega) rfl rfl rfl)⟩ | exact B60 (by omega) (by omega) | exact B52 (by omega)) (by first | exact K60 | exact Q52.2) (by have hm := hm_39 (); omega) hW (lv_sub hl [2, 1, 0] rfl)
        refine x_iconst hx hb dX11_market_66 ?_
        refine lv_goto (tgt := 71) hx hb dX11_market_67 (by decide) ?_
        refine lv_istore_n (lv' := [(2, .int (xJ 1)), (0, .ref (h0 + 268)), (3, .int (xJ i3_39))]) hx hb dX11_market_71 rfl hl (by decide) rfl (fun ls hl => ?_)
        refine x_iinc (lv' := [(3, .int (xJ (i3_39 + 1))), (2, .int (xJ 1)), (0, .ref (h0 + 268))]) hx hb hl 2 rfl dX11_market_72 (by decide) rfl (fun ls hl => ?_)
        refine lv_goto (tgt := 39) hx hb dX11_market_75 (by decide) ?_
        exact ih39 1 (i3_39 + 1) s206 H locs ls (by decide) (by omega) hF208 q209 q210 q211 q212 q213 q214 hp207.1.1 hp207.1.2.1 hp207.1.2.2.1 hp207.1.2.2.2.1 (hp207.1.2.2.2.2.1.trans (hp196.1.2.2.2.2.1.trans q39_10)) (hp207.1.2.2.2.2.2.1.trans (hp196.1.2.2.2.2.2.1.trans q39_11)) (hp207.1.2.2.2.2.2.2.1.trans (hp196.1.2.2.2.2.2.2.1.trans q39_12)) (by omega) (by first | exact Or.inl ⟨rfl, (v39_1.resolve_right (fun q => by omega)).2.trans (zM_row_ok (by omega) (by omega) (D60.resolve_right (fun q => by omega)).2 (by omega) rfl rfl rfl)⟩ | exact B60 (by omega) (by omega) | exact B52 (by omega)) (by first | exact K60 | exact Q52.2) (by have hm := hm_39 (); omega) hW (lv_sub hl [2, 1, 0] rfl)
    exact L39 ((10 - 1 : Int).toNat + 1) x37 1 s38 H locs ls rx37 (by decide) hF40 q41 q42 q43 q44 q45 q46 hp39.1.1 hp39.1.2.1 hp39.1.2.2.1 hp39.1.2.2.2.1 (hp39.1.2.2.2.2.1.trans q30) (hp39.1.2.2.2.2.2.1.trans q31) (hp39.1.2.2.2.2.2.2.1.trans q34) (by omega) (B33) (Q33) (Nat.lt_succ_self _) hW (lv_sub hl [2, 1, 0] rfl)
  refine x_iconst hx hb dX11_market_19 ?_
  rw [eQ]
  exact x_iret hx hb hr hlk hW (by decide) ⟨hF, ⟨p0, p1, p2, k269_37, k269_0, k269_1, k269_2, k269_3, trivial⟩, Or.inl ⟨by omega, by omega, by omega, rfl, rfl, rfl, rfl⟩⟩ dX11_market_20
