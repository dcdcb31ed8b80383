set_option maxHeartbeats 4000000 in
set_option maxRecDepth 100000 in
theorem c_X11_lawKT3 (l : Launch) (D : va_G) (g : xG) (T : Nat × Nat × Nat) (h0 : Nat) (s0 : xS) (hσ : xRR s0) (n : Int) (rn : xR n) (p0 : IMn s0) (p1 : IMk s0) (p2 : IMo s0) : Met l yX11_law (xws yX11_law cX11_law 4 (some .int)) { frames := 8, cells := 0, slots := 0, locals := 166 } (xP [.ref (h0 + 268), .int (xJ n)] D g T h0 s0) (xQi D g h0 (fun r τ => xFr (fun k => k = 268 ∨ k = 277 ∨ k = 278 ∨ k = 279 ∨ k = 280 ∨ k = 281 ∨ k = 282 ∨ k = 283 ∨ k = 284 ∨ k = 285 ∨ k = 286 ∨ k = 287) s0 τ ∧ (((IMn τ) ∧ (IMk τ) ∧ (IMo τ) ∧ (τ 268 58 = s0 268 58) ∧ (τ 268 17 = s0 268 17) ∧ True) ∧ (((n < 1 ∨ 240 < n ∨ s0 268 8 < n) ∧ τ 268 8 = s0 268 8 ∧ r = -1 ∧ (τ 283 = s0 283 ∧ τ 284 = s0 284 ∧ τ 285 = s0 285 ∧ τ 286 = s0 286 ∧ τ 287 = s0 287 ∧ τ 268 17 = s0 268 17)) ∨ (¬ (n < 1 ∨ 240 < n ∨ s0 268 8 < n) ∧ τ 268 8 = 0 ∧ (((zL0 (xm8 (s0 276)) n (s0 277) (s0 279) (s0 280) (s0 281) (s0 282)).1 ≠ 0 ∧ r = (zL0 (xm8 (s0 276)) n (s0 277) (s0 279) (s0 280) (s0 281) (s0 282)).1 ∧ (τ 283 = s0 283 ∧ τ 284 = s0 284 ∧ τ 285 = s0 285 ∧ τ 286 = s0 286 ∧ τ 287 = s0 287 ∧ τ 268 17 = s0 268 17)) ∨ (∃ M2 c2 C2 L2 A2 B2 T2, (zL0 (xm8 (s0 276)) n (s0 277) (s0 279) (s0 280) (s0 281) (s0 282)) = (0, M2, c2, C2, L2, A2, B2, T2) ∧ r = M2 ∧ τ 268 17 = M2 ∧ (∀ k, 0 ≤ k → k < c2 → τ 283 k = C2 k) ∧ ∀ q, 0 ≤ q → q < M2 → τ 284 q = L2 q ∧ τ 285 q = A2 q ∧ τ 286 q = B2 q ∧ τ 287 q = T2 q))))))) 0 0 (xA h0) := by
  refine x_met hσ (by decide) (Nat.le_of_ble_eq_true rfl) ?_
  intro p e s m args below meth c hx hb hr hml hown hT hlk hnm hE hW ls hl
  have hl : lv_has ls 4 [(0, .ref (h0 + 268)), (1, .int (xJ n))] := hl
  obtain ⟨Q, eQ⟩ : ∃ Q, Q = MQ below (xQi D g h0 (fun r τ => xFr (fun k => k = 268 ∨ k = 277 ∨ k = 278 ∨ k = 279 ∨ k = 280 ∨ k = 281 ∨ k = 282 ∨ k = 283 ∨ k = 284 ∨ k = 285 ∨ k = 286 ∨ k = 287) s0 τ ∧ (((IMn τ) ∧ (IMk τ) ∧ (IMo τ) ∧ (τ 268 58 = s0 268 58) ∧ (τ 268 17 = s0 268 17) ∧ True) ∧ (((n < 1 ∨ 240 < n ∨ s0 268 8 < n) ∧ τ 268 8 = s0 268 8 ∧ r = -1 ∧ (τ 283 = s0 283 ∧ τ 284 = s0 284 ∧ τ 285 = s0 285 ∧ τ 286 = s0 286 ∧ τ 287 = s0 287 ∧ τ 268 17 = s0 268 17)) ∨ (¬ (n < 1 ∨ 240 < n ∨ s0 268 8 < n) ∧ τ 268 8 = 0 ∧ (((zL0 (xm8 (s0 276)) n (s0 277) (s0 279) (s0 280) (s0 281) (s0 282)).1 ≠ 0 ∧ r = (zL0 (xm8 (s0 276)) n (s0 277) (s0 279) (s0 280) (s0 281) (s0 282)).1 ∧ (τ 283 = s0 283 ∧ τ 284 = s0 284 ∧ τ 285 = s0 285 ∧ τ 286 = s0 286 ∧ τ 287 = s0 287 ∧ τ 268 17 = s0 268 17)) ∨ (∃ M2 c2 C2 L2 A2 B2 T2, (zL0 (xm8 (s0 276)) n (s0 277) (s0 279) (s0 280) (s0 281) (s0 282)) = (0, M2, c2, C2, L2, A2, B2, T2) ∧ r = M2 ∧ τ 268 17 = M2 ∧ (∀ k, 0 ≤ k → k < c2 → τ 283 k = C2 k) ∧ ∀ q, 0 ≤ q → q < M2 → τ 284 q = L2 q ∧ τ 285 q = A2 q ∧ τ 286 q = B2 q ∧ τ 287 q = T2 q))))))) args s 0 0 (xA h0) := ⟨_, rfl⟩
  rw [← eQ]
  generalize hHe : ([] : List Loc) = locs at hW ⊢
  obtain ⟨H, eH⟩ : ∃ H, H = s.heap := ⟨_, rfl⟩
  rw [← eH] at hW ⊢
  have hF : xFr (fun k => k = 268 ∨ k = 277 ∨ k = 278 ∨ k = 279 ∨ k = 280 ∨ k = 281 ∨ k = 282 ∨ k = 283 ∨ k = 284 ∨ k = 285 ∨ k = 286 ∨ k = 287) s0 s0 := xFr.rf
  have k268_58 : s0 268 58 = s0 268 58 := rfl
  have k268_17 : s0 268 17 = s0 268 17 := rfl
  have k268_8 : s0 268 8 = s0 268 8 := rfl
  refine x_iload_n hx hb hl 1 rfl dX11_law_0 rfl ?_
  refine x_iconst hx hb dX11_law_1 ?_
  refine x_sipush hx hb dX11_law_2 (by decide) ?_
  refine x_goi (x_runS (As := [.int (xJ n), .int (xJ 1), .int (xJ 240)]) hx hb hml hown hT hE hW hl.1 cf_X11_in wq1383 wq1382 (c_X11_in l D g T h0 s0 hW.2.1 n rn 1 (by decide) 240 (by decide)) ⟨rfl, rfl, ⟨by decide, by decide⟩, ⟨by decide, by decide⟩⟩ rfl rfl (Nat.le_of_ble_eq_true rfl) dX11_law_5) hW (fun x1 s2 H locs rx1 hp3 hW => ?_)
  obtain ⟨es2, hp3⟩ := hp3
  subst es2
  have ghp3 := hp3
  refine x_if_eq (tgt := 19) hx hb rx1 dX11_law_8 (by decide) (fun c4 => ?_) (fun c4 => ?_)
  · skip
    refine x_iconst hx hb dX11_law_19 ?_
    rw [eQ]
    exact x_iret hx hb hr hlk hW (by decide) ⟨hF, ⟨p0, p1, p2, k268_58, k268_17, trivial⟩, Or.inl ⟨by omega, by omega, by omega, ⟨rfl, rfl, rfl, rfl, rfl, rfl⟩⟩⟩ dX11_law_20
  refine x_iload_n hx hb hl 1 rfl dX11_law_11 rfl ?_
  refine x_aload_n hx hb hl 0 rfl dX11_law_12 rfl ?_
  refine x_get (j := 8) (v := .int (xJ (s0 268 8))) hx hb hown hT hE hW cls_X11 (Or.inl (by decide)) (so_268 h0 g _) (by decide) rfl wq1193 dX11_law_13 ?_
  refine x_rd hW (fun x5 ex5 rx5 => ?_)
  have bx5 : 0 ≤ x5 ∧ x5 ≤ 260 := by rw [ex5]; exact IMn.t p0
  have fx5 : x5 = s0 268 8 := ex5.trans k268_8
  refine x_icmp_le (tgt := 21) hx hb rn rx5 dX11_law_16 (by decide) (fun c6 => ?_) (fun c6 => ?_)
  · skip
    refine x_aload_n hx hb hl 0 rfl dX11_law_21 rfl ?_
    refine x_iconst hx hb dX11_law_22 ?_
    refine x_put (j := 9) hx hb hown hT hE hW cls_X11 (by decide) (fun σ => so_268 h0 g σ) (by decide) (st_X11_9 h0 s0 268 0) (ln_X11_9 h0 _ _) wq1194 rfl rfl rfl (by decide) dX11_law_23 (fun H locs s7 es7 hW => ?_)
    have q8 : IMn s7 := by rw [es7]; exact IMn_268 p0 (by omega)
    have q9 : IMk s7 := by rw [es7]; exact IMk_268 p1 (by omega)
    have q10 : IMo s7 := by rw [es7]; exact IMo_o (by unfold suIMo; omega) p2
    have q11 : s7 268 58 = s0 268 58 := (show s7 268 58 = s0 268 58 from by rw [es7, xU_j _ _ (by decide)]).trans k268_58
    have q12 : s7 268 17 = s0 268 17 := (show s7 268 17 = s0 268 17 from by rw [es7, xU_j _ _ (by decide)]).trans k268_17
    have q13 : s7 268 8 = s0 268 8 := (show s7 268 8 = s0 268 8 from by rw [es7, xU_j _ _ (by decide)]).trans k268_8
    have q14 : s7 268 9 = 0 := by rw [es7, xU_s]
    have hF15 := hF.put es7 (by omega)
    have E23 := es7
    refine x_aload_n hx hb hl 0 rfl dX11_law_26 rfl ?_
    refine x_iload_n hx hb hl 1 rfl dX11_law_27 rfl ?_
    refine x_put (j := 10) hx hb hown hT hE hW cls_X11 (by decide) (fun σ => so_268 h0 g σ) (by decide) (st_X11_10 h0 s7 268 n) (ln_X11_10 h0 _ _) wq1195 rfl rfl rfl rn dX11_law_28 (fun H locs s16 es16 hW => ?_)
    have q17 : IMn s16 := by rw [es16]; exact IMn_268 q8 (by omega)
    have q18 : IMk s16 := by rw [es16]; exact IMk_268 q9 (by omega)
    have q19 : IMo s16 := by rw [es16]; exact IMo_o (by unfold suIMo; omega) q10
    have q20 : s16 268 58 = s0 268 58 := (show s16 268 58 = s7 268 58 from by rw [es16, xU_j _ _ (by decide)]).trans q11
    have q21 : s16 268 17 = s0 268 17 := (show s16 268 17 = s7 268 17 from by rw [es16, xU_j _ _ (by decide)]).trans q12
    have q22 : s16 268 8 = s0 268 8 := (show s16 268 8 = s7 268 8 from by rw [es16, xU_j _ _ (by decide)]).trans q13
    have q23 : s16 268 9 = 0 := (show s16 268 9 = s7 268 9 from by rw [es16, xU_j _ _ (by decide)]).trans q14
    have q24 : s16 268 10 = n := by rw [es16, xU_s]
    have hF25 := hF15.put es16 (by omega)
    have q26 : IR s16 := by unfold IR; omega
    have E28 := es16
    refine x_aload_n hx hb hl 0 rfl dX11_law_31 rfl ?_
    refine x_iconst hx hb dX11_law_32 ?_
    refine x_put (j := 14) hx hb hown hT hE hW cls_X11 (by decide) (fun σ => so_268 h0 g σ) (by decide) (st_X11_14 h0 s16 268 0) (ln_X11_14 h0 _ _) wq1199 rfl rfl rfl (by decide) dX11_law_33 (fun H locs s27 es27 hW => ?_)
    have q28 : IMn s27 := by rw [es27]; exact IMn_268 q17 (by omega)
    have q29 : IMk s27 := by rw [es27]; exact IMk_268 q18 (by omega)
    have q30 : IMo s27 := by rw [es27]; exact IMo_o (by unfold suIMo; omega) q19
    have q31 : s27 268 58 = s0 268 58 := (show s27 268 58 = s16 268 58 from by rw [es27, xU_j _ _ (by decide)]).trans q20
    have q32 : s27 268 17 = s0 268 17 := (show s27 268 17 = s16 268 17 from by rw [es27, xU_j _ _ (by decide)]).trans q21
    have q33 : s27 268 8 = s0 268 8 := (show s27 268 8 = s16 268 8 from by rw [es27, xU_j _ _ (by decide)]).trans q22
    have q34 : s27 268 9 = 0 := (show s27 268 9 = s16 268 9 from by rw [es27, xU_j _ _ (by decide)]).trans q23
    have q35 : s27 268 10 = n := (show s27 268 10 = s16 268 10 from by rw [es27, xU_j _ _ (by decide)]).trans q24
    have q36 : IR s27 := by rw [es27]; exact IR_268 q26 (by omega)
    have q37 : s27 268 14 = 0 := by rw [es27, xU_s]
    have hF38 := hF25.put es27 (by omega)
    have E33 := es27
    refine x_aload_n hx hb hl 0 rfl dX11_law_36 rfl ?_
    refine x_iconst hx hb dX11_law_37 ?_
    refine x_put (j := 16) hx hb hown hT hE hW cls_X11 (by decide) (fun σ => so_268 h0 g σ) (by decide) (st_X11_16 h0 s27 268 0) (ln_X11_16 h0 _ _) wq1201 rfl rfl rfl (by decide) dX11_law_38 (fun H locs s39 es39 hW => ?_)
    have q40 : IMn s39 := by rw [es39]; exact IMn_268 q28 (by omega)
    have q41 : IMk s39 := by rw [es39]; exact IMk_268 q29 (by omega)
    have q42 : IMo s39 := by rw [es39]; exact IMo_o (by unfold suIMo; omega) q30
    have q43 : s39 268 58 = s0 268 58 := (show s39 268 58 = s27 268 58 from by rw [es39, xU_j _ _ (by decide)]).trans q31
    have q44 : s39 268 17 = s0 268 17 := (show s39 268 17 = s27 268 17 from by rw [es39, xU_j _ _ (by decide)]).trans q32
    have q45 : s39 268 8 = s0 268 8 := (show s39 268 8 = s27 268 8 from by rw [es39, xU_j _ _ (by decide)]).trans q33
    have q46 : s39 268 9 = 0 := (show s39 268 9 = s27 268 9 from by rw [es39, xU_j _ _ (by decide)]).trans q34
    have q47 : s39 268 10 = n := (show s39 268 10 = s27 268 10 from by rw [es39, xU_j _ _ (by decide)]).trans q35
    have q48 : IR s39 := by rw [es39]; exact IR_268 q36 (by omega)
    have q49 : s39 268 14 = 0 := (show s39 268 14 = s27 268 14 from by rw [es39, xU_j _ _ (by decide)]).trans q37
    have q50 : s39 268 16 = 0 := by rw [es39, xU_s]
    have hF51 := hF38.put es39 (by omega)
    have E38 := es39
    have Q38 : s39 283 = s0 283 ∧ s39 284 = s0 284 ∧ s39 285 = s0 285 ∧ s39 286 = s0 286 ∧ s39 287 = s0 287 := by rw [E38, xU_k _ _ _ (by omega), xU_k _ _ _ (by omega), xU_k _ _ _ (by omega), xU_k _ _ _ (by omega), xU_k _ _ _ (by omega), E33, xU_k _ _ _ (by omega), xU_k _ _ _ (by omega), xU_k _ _ _ (by omega), xU_k _ _ _ (by omega), xU_k _ _ _ (by omega), E28, xU_k _ _ _ (by omega), xU_k _ _ _ (by omega), xU_k _ _ _ (by omega), xU_k _ _ _ (by omega), xU_k _ _ _ (by omega), E23, xU_k _ _ _ (by omega), xU_k _ _ _ (by omega), xU_k _ _ _ (by omega), xU_k _ _ _ (by omega), xU_k _ _ _ (by omega)]; exact ⟨rfl, rfl, rfl, rfl, rfl⟩
    have Z38 : zLX (xm8 (s0 276)) n (zL0 (xm8 (s0 276)) n (s0 277) (s0 279) (s0 280) (s0 281) (s0 282)) true (s39 268 16) (s39 268 9) (s39 268 14) (s39 277) (s39 279) (s39 280) (s39 281) (s39 282) := by
      rw [show s39 268 16 = 0 from by omega, show s39 268 9 = 0 from by omega, show s39 268 14 = 0 from by omega, hF51 277 (by omega), hF51 279 (by omega), hF51 280 (by omega), hF51 281 (by omega), hF51 282 (by omega)]
      exact zLX.new (by omega)
    refine x_aload_n hx hb hl 0 rfl dX11_law_41 rfl ?_
    refine x_goi (x_runV (As := []) hx hb hml hown hT hE hW hl.1 (Or.inl (by decide)) (so_268 h0 g _) rfl cf_X11_readsClause wq1465 wq115 wq1463 (c_X11_readsClauseK l D g T h0 s39 hW.2.1 (xm8 (s0 276)) n (zL0 (xm8 (s0 276)) n (s0 277) (s0 279) (s0 280) (s0 281) (s0 282)) (⟨by rw [hF51 276 (by omega)], by omega⟩) (Z38) q40 q41 q42 q48) ⟨rfl, rfl, ⟨by decide, by decide⟩, ⟨by decide, by decide⟩⟩ rfl rfl (Nat.le_of_ble_eq_true rfl) dX11_law_42) hW (fun x52 s53 H locs rx52 hp54 hW => ?_)
    obtain ⟨fs53, hp54⟩ := hp54
    have hF55 := hF51.call fs53 (fun k h => by omega)
    have ghp54 := hp54.2
    have H42 := ghp54
    have Q42 : s53 283 = s0 283 ∧ s53 284 = s0 284 ∧ s53 285 = s0 285 ∧ s53 286 = s0 286 ∧ s53 287 = s0 287 := ⟨(fs53 283 (by omega)).trans Q38.1, (fs53 284 (by omega)).trans Q38.2.1, (fs53 285 (by omega)).trans Q38.2.2.1, (fs53 286 (by omega)).trans Q38.2.2.2.1, (fs53 287 (by omega)).trans Q38.2.2.2.2⟩
    refine lv_istore_n (lv' := [(2, .int (xJ x52)), (0, .ref (h0 + 268)), (1, .int (xJ n))]) hx hb dX11_law_45 rfl hl (by decide) rfl (fun ls hl => ?_)
    have L46 : ∀ (fu : Nat) (i2_46 : Int) (s_46 : xS) (H : Heap) (locs : List Loc) (ls : Array Slot), (xR i2_46) → (xFr (fun k => k = 268 ∨ k = 277 ∨ k = 278 ∨ k = 279 ∨ k = 280 ∨ k = 281 ∨ k = 282 ∨ k = 283 ∨ k = 284 ∨ k = 285 ∨ k = 286 ∨ k = 287) s0 s_46) → (IMn s_46) → (IMk s_46) → (IMo s_46) → (IR s_46) → (s_46 268 8 = s0 268 8) → (s_46 268 58 = s0 268 58) → (s_46 268 17 = s0 268 17) → (s_46 268 10 = n) → ((i2_46 = 0 ∧ (zL0 (xm8 (s0 276)) n (s0 277) (s0 279) (s0 280) (s0 281) (s0 282)).1 ≠ 0 ∧ s_46 268 11 = (zL0 (xm8 (s0 276)) n (s0 277) (s0 279) (s0 280) (s0 281) (s0 282)).1) ∨ (i2_46 = 1 ∧ zLX (xm8 (s0 276)) n (zL0 (xm8 (s0 276)) n (s0 277) (s0 279) (s0 280) (s0 281) (s0 282)) false (s_46 268 16) (s_46 268 9) (s_46 268 14) (s_46 277) (s_46 279) (s_46 280) (s_46 281) (s_46 282))) → (s_46 283 = s0 283 ∧ s_46 284 = s0 284 ∧ s_46 285 = s0 285 ∧ s_46 286 = s0 286 ∧ s_46 287 = s0 287) → (2 * (241 - s_46 268 9) + i2_46).toNat < fu → xW D g h0 s H locs s_46 → lv_has ls 4 [(0, .ref (h0 + 268)), (2, .int (xJ i2_46))] → W p l e { frames := 8, cells := 0, slots := 0, locals := 166 } s m args below meth c H locs 0 0 Q (F0 m 46 ls []) := by
      intro fu
      induction fu with
      | zero => intro i2_46 s_46 H locs ls ri2_46 hF_46 q46_0 q46_1 q46_2 q46_3 q46_4 q46_5 q46_6 q46_7 v46_0 v46_1 hm; exact absurd hm (Nat.not_lt_zero _)
      | succ fu ih46 =>
        intro i2_46 s_46 H locs ls ri2_46 hF_46 q46_0 q46_1 q46_2 q46_3 q46_4 q46_5 q46_6 q46_7 v46_0 v46_1 hm hW hl
        have r46 : 0 ≤ s_46 268 9 ∧ s_46 268 9 ≤ s_46 268 10 ∧ s_46 268 10 ≤ 240 := q46_3
        refine x_iload_n hx hb hl 1 rfl dX11_law_46 rfl ?_
        have J86 : ∀ (ls : Array Slot), ((i2_46 = 0 ∧ (zL0 (xm8 (s0 276)) n (s0 277) (s0 279) (s0 280) (s0 281) (s0 282)).1 ≠ 0 ∧ s_46 268 11 = (zL0 (xm8 (s0 276)) n (s0 277) (s0 279) (s0 280) (s0 281) (s0 282)).1) ∨ (i2_46 = 1 ∧ (zL0 (xm8 (s0 276)) n (s0 277) (s0 279) (s0 280) (s0 281) (s0 282)) = (0, s_46 268 16, s_46 268 14, s_46 277, s_46 279, s_46 280, s_46 281, s_46 282))) → lv_has ls 4 [(0, .ref (h0 + 268)), (2, .int (xJ i2_46))] → W p l e { frames := 8, cells := 0, slots := 0, locals := 166 } s m args below meth c H locs 0 0 Q (F0 m 86 ls []) := by
          intro ls v86_0  hl
          refine x_aload_n hx hb hl 0 rfl dX11_law_86 rfl ?_
          refine x_iconst hx hb dX11_law_87 ?_
          refine x_put (j := 8) hx hb hown hT hE hW cls_X11 (by decide) (fun σ => so_268 h0 g σ) (by decide) (st_X11_8 h0 s_46 268 0) (ln_X11_8 h0 _ _) wq1193 rfl rfl rfl (by decide) dX11_law_88 (fun H locs s56 es56 hW => ?_)
          have q57 : IMn s56 := by rw [es56]; exact IMn_268 q46_0 (by omega)
          have q58 : IMk s56 := by rw [es56]; exact IMk_268 q46_1 (by omega)
          have q59 : IMo s56 := by rw [es56]; exact IMo_o (by unfold suIMo; omega) q46_2
          have q60 : IR s56 := by rw [es56]; exact IR_268 q46_3 (by omega)
          have q61 : s56 268 8 = 0 := by rw [es56, xU_s]
          have q62 : s56 268 58 = s0 268 58 := (show s56 268 58 = s_46 268 58 from by rw [es56, xU_j _ _ (by decide)]).trans q46_5
          have q63 : s56 268 17 = s0 268 17 := (show s56 268 17 = s_46 268 17 from by rw [es56, xU_j _ _ (by decide)]).trans q46_6
          have q64 : s56 268 10 = n := (show s56 268 10 = s_46 268 10 from by rw [es56, xU_j _ _ (by decide)]).trans q46_7
          have hF65 := hF_46.put es56 (by omega)
          have E88 := es56
          have Q88 : s56 283 = s0 283 ∧ s56 284 = s0 284 ∧ s56 285 = s0 285 ∧ s56 286 = s0 286 ∧ s56 287 = s0 287 := by rw [E88, xU_k _ _ _ (by omega), xU_k _ _ _ (by omega), xU_k _ _ _ (by omega), xU_k _ _ _ (by omega), xU_k _ _ _ (by omega)]; exact v46_1
          refine x_iload_n hx hb hl 1 rfl dX11_law_91 rfl ?_
          refine x_if_ne (tgt := 100) hx hb ri2_46 dX11_law_92 (by decide) (fun c66 => ?_) (fun c66 => ?_)
          · skip
            refine x_aload_n hx hb hl 0 rfl dX11_law_100 rfl ?_
            refine x_aload_n hx hb hl 0 rfl dX11_law_101 rfl ?_
            refine x_get (j := 16) (v := .int (xJ (s56 268 16))) hx hb hown hT hE hW cls_X11 (Or.inl (by decide)) (so_268 h0 g _) (by decide) rfl wq1201 dX11_law_102 ?_
            refine x_rd hW (fun x67 ex67 rx67 => ?_)
            have q68 : s56 268 16 = x67 := ex67.symm
            refine x_put (j := 17) hx hb hown hT hE hW cls_X11 (by decide) (fun σ => so_268 h0 g σ) (by decide) (st_X11_17 h0 s56 268 x67) (ln_X11_17 h0 _ _) wq1202 rfl rfl rfl rx67 dX11_law_105 (fun H locs s69 es69 hW => ?_)
            have q70 : IMn s69 := by rw [es69]; exact IMn_268 q57 (by omega)
            have q71 : IMo s69 := by rw [es69]; exact IMo_o (by unfold suIMo; omega) q59
            have q72 : IR s69 := by rw [es69]; exact IR_268 q60 (by omega)
            have q73 : s69 268 8 = 0 := (show s69 268 8 = s56 268 8 from by rw [es69, xU_j _ _ (by decide)]).trans q61
            have q74 : s69 268 58 = s0 268 58 := (show s69 268 58 = s56 268 58 from by rw [es69, xU_j _ _ (by decide)]).trans q62
            have q75 : s69 268 17 = x67 := by rw [es69, xU_s]
            have q76 : s69 268 10 = n := (show s69 268 10 = s56 268 10 from by rw [es69, xU_j _ _ (by decide)]).trans q64
            have q77 : s69 268 16 = x67 := (show s69 268 16 = s56 268 16 from by rw [es69, xU_j _ _ (by decide)]).trans q68
            have hF78 := hF65.put es69 (by omega)
            have E105 := es69
            obtain ⟨M6, eM6⟩ : ∃ p : Int, p = s_46 268 16 := ⟨_, rfl⟩
            obtain ⟨c6, ec6⟩ : ∃ p : Int, p = s_46 268 14 := ⟨_, rfl⟩
            obtain ⟨K6, eK6⟩ : ∃ K, K = s_46 277 := ⟨_, rfl⟩
            obtain ⟨K7, eK7⟩ : ∃ K, K = s_46 279 := ⟨_, rfl⟩
            obtain ⟨K8, eK8⟩ : ∃ K, K = s_46 280 := ⟨_, rfl⟩
            obtain ⟨K9, eK9⟩ : ∃ K, K = s_46 281 := ⟨_, rfl⟩
            obtain ⟨K0, eK0⟩ : ∃ K, K = s_46 282 := ⟨_, rfl⟩
            have e6 : (zL0 (xm8 (s0 276)) n (s0 277) (s0 279) (s0 280) (s0 281) (s0 282)) = (0, M6, c6, K6, K7, K8, K9, K0) := by rw [eM6, ec6, eK6, eK7, eK8, eK9, eK0]; exact (v86_0.resolve_left (fun q => by omega)).2
            have w6 := zL0_wf (by omega) e6
            have Q105 : (s69 277 = K6 ∧ s69 279 = K7 ∧ s69 280 = K8 ∧ s69 281 = K9 ∧ s69 282 = K0) ∧ (s69 268 14 = c6 ∧ s69 268 16 = M6 ∧ s69 268 17 = M6) := ⟨by rw [E105, xU_k _ _ _ (by omega), xU_k _ _ _ (by omega), xU_k _ _ _ (by omega), xU_k _ _ _ (by omega), xU_k _ _ _ (by omega), E88, xU_k _ _ _ (by omega), xU_k _ _ _ (by omega), xU_k _ _ _ (by omega), xU_k _ _ _ (by omega), xU_k _ _ _ (by omega)]; exact ⟨eK6.symm, eK7.symm, eK8.symm, eK9.symm, eK0.symm⟩, by omega⟩
            refine x_iconst hx hb dX11_law_108 ?_
            refine lv_istore_n (lv' := [(3, .int (xJ 0)), (0, .ref (h0 + 268)), (2, .int (xJ i2_46))]) hx hb dX11_law_109 rfl hl (by decide) rfl (fun ls hl => ?_)
            have L110 : ∀ (fu : Nat) (i3_110 : Int) (s_110 : xS) (H : Heap) (locs : List Loc) (ls : Array Slot), (xR i3_110) → (xFr (fun k => k = 268 ∨ k = 277 ∨ k = 278 ∨ k = 279 ∨ k = 280 ∨ k = 281 ∨ k = 282 ∨ k = 283 ∨ k = 284 ∨ k = 285 ∨ k = 286 ∨ k = 287) s0 s_110) → (IMn s_110) → (IMo s_110) → (IR s_110) → (s_110 268 8 = 0) → (s_110 268 58 = s0 268 58) → (s_110 268 17 = x67) → (s_110 268 10 = n) → (s_110 268 16 = x67) → (0 ≤ i3_110 ∧ i3_110 ≤ c6) → (s_110 277 = K6 ∧ s_110 279 = K7 ∧ s_110 280 = K8 ∧ s_110 281 = K9 ∧ s_110 282 = K0) → (s_110 268 14 = c6 ∧ s_110 268 16 = M6 ∧ s_110 268 17 = M6) → (∀ q : Int, 0 ≤ q → q < i3_110 → s_110 283 q = K6 q) → (241 - i3_110).toNat < fu → xW D g h0 s H locs s_110 → lv_has ls 4 [(0, .ref (h0 + 268)), (3, .int (xJ i3_110))] → W p l e { frames := 8, cells := 0, slots := 0, locals := 166 } s m args below meth c H locs 0 0 Q (F0 m 110 ls []) := by
              sorry
            exact L110 ((241 - 0 : Int).toNat + 1) 0 s69 H locs ls (by decide) hF78 q70 q71 q72 q73 q74 q75 q76 q77 (by omega) (Q105.1) (Q105.2) (fun q q1 q2 => absurd q2 (by omega)) (Nat.lt_succ_self _) hW (lv_sub hl [1, 0] rfl)
          refine x_aload_n hx hb hl 0 rfl dX11_law_95 rfl ?_
          refine x_get (j := 11) (v := .int (xJ (s56 268 11))) hx hb hown hT hE hW cls_X11 (Or.inl (by decide)) (so_268 h0 g _) (by decide) rfl wq1196 dX11_law_96 ?_
          refine x_rd hW (fun x145 ex145 rx145 => ?_)
          rw [eQ]
          exact x_iret hx hb hr hlk hW rx145 ⟨hF65, ⟨q57, q58, q59, q62, q63, trivial⟩, by
    have z := v86_0.resolve_right (fun q => by omega)
    exact Or.inr ⟨by omega, by omega, Or.inl ⟨z.2.1, by omega, ⟨Q88.1, Q88.2.1, Q88.2.2.1, Q88.2.2.2.1, Q88.2.2.2.2, by omega⟩⟩⟩⟩ dX11_law_99
        refine x_if_eq (tgt := 86) hx hb ri2_46 dX11_law_47 (by decide) (fun c146 => ?_) (fun c146 => ?_)
        · skip
          exact J86 ls (v46_0.elim Or.inl (fun q => Or.inr ⟨q.1, q.2.fin (by omega)⟩))  (lv_sub hl [0, 1] rfl)
        refine x_aload_n hx hb hl 0 rfl dX11_law_50 rfl ?_
        refine x_get (j := 9) (v := .int (xJ (s_46 268 9))) hx hb hown hT hE hW cls_X11 (Or.inl (by decide)) (so_268 h0 g _) (by decide) rfl wq1194 dX11_law_51 ?_
        refine x_rd hW (fun x147 ex147 rx147 => ?_)
        have bx147 : 0 ≤ x147 ∧ x147 ≤ s_46 268 10 ∧ s_46 268 10 ≤ 240 := by rw [ex147]; exact q46_3
        have q148 : s_46 268 9 = x147 := ex147.symm
        refine x_aload_n hx hb hl 0 rfl dX11_law_54 rfl ?_
        refine x_get (j := 10) (v := .int (xJ (s_46 268 10))) hx hb hown hT hE hW cls_X11 (Or.inl (by decide)) (so_268 h0 g _) (by decide) rfl wq1195 dX11_law_55 ?_
        refine x_rd hW (fun x149 ex149 rx149 => ?_)
        have fx149 : x149 = n := ex149.trans q46_7
        refine x_icmp_ge (tgt := 86) hx hb rx147 rx149 dX11_law_58 (by decide) (fun c150 => ?_) (fun c150 => ?_)
        · skip
          exact J86 ls (v46_0.elim Or.inl (fun q => Or.inr ⟨q.1, q.2.fin (by omega)⟩))  (lv_sub hl [0, 1] rfl)
        refine x_aload_n hx hb hl 0 rfl dX11_law_61 rfl ?_
        refine x_bipush hx hb dX11_law_62 (by decide) ?_
        refine x_goi (x_runV (As := [.int (xJ 59)]) hx hb hml hown hT hE hW hl.1 (Or.inl (by decide)) (so_268 h0 g _) rfl cf_X11_takes wq1405 wq108 wq1403 (c_X11_takesK l D g T h0 s_46 hW.2.1 59 (by decide) (by omega) q46_0 q46_1 q46_2 q46_3) ⟨rfl, rfl, ⟨by decide, by decide⟩, ⟨by decide, by decide⟩⟩ rfl rfl (Nat.le_of_ble_eq_true rfl) dX11_law_64) hW (fun x151 s152 H locs rx151 hp153 hW => ?_)
        obtain ⟨fs152, hp153⟩ := hp153
        have hF154 := hF_46.call fs152 (fun k h => by omega)
        have ghp153 := hp153.2
        have H64 := ghp153
        have C64 : zhC s_46 = zch (xm8 (s0 276)) n (s_46 268 9) := by rw [zhC_ch, hF_46 276 (by omega), show s_46 268 10 = n from by omega]
        rw [C64] at H64
        have Q64 : s152 283 = s0 283 ∧ s152 284 = s0 284 ∧ s152 285 = s0 285 ∧ s152 286 = s0 286 ∧ s152 287 = s0 287 := ⟨(fs152 283 (by omega)).trans v46_1.1, (fs152 284 (by omega)).trans v46_1.2.1, (fs152 285 (by omega)).trans v46_1.2.2.1, (fs152 286 (by omega)).trans v46_1.2.2.2.1, (fs152 287 (by omega)).trans v46_1.2.2.2.2⟩
        have W64 : x151 ≠ 0 → zLX (xm8 (s0 276)) n (zL0 (xm8 (s0 276)) n (s0 277) (s0 279) (s0 280) (s0 281) (s0 282)) true (s152 268 16) (s152 268 9) (s152 268 14) (s152 277) (s152 279) (s152 280) (s152 281) (s152 282) := fun hv => by
          have z := (v46_0.resolve_left (fun q => by omega)).2
          rw [show s152 268 16 = s_46 268 16 from by omega, show s152 268 14 = s_46 268 14 from by omega, fs152 277 (by omega), fs152 279 (by omega), fs152 280 (by omega), fs152 281 (by omega), fs152 282 (by omega)]
          exact z.semi (by omega) (by omega)
        have W67 : x151 = 0 → (zL0 (xm8 (s0 276)) n (s0 277) (s0 279) (s0 280) (s0 281) (s0 282)).1 ≠ 0 ∧ s152 268 11 = (zL0 (xm8 (s0 276)) n (s0 277) (s0 279) (s0 280) (s0 281) (s0 282)).1 := fun hv => by
          have z := (v46_0.resolve_left (fun q => by omega)).2
          have y := z.bad (by omega) (by omega)
          have b := z.b
          omega
        refine x_if_eq (tgt := 81) hx hb rx151 dX11_law_67 (by decide) (fun c155 => ?_) (fun c155 => ?_)
        · skip
          refine x_iconst hx hb dX11_law_81 ?_
          refine lv_istore_n (lv' := [(2, .int (xJ 0)), (0, .ref (h0 + 268))]) hx hb dX11_law_82 rfl hl (by decide) rfl (fun ls hl => ?_)
          refine lv_goto (tgt := 46) hx hb dX11_law_83 (by decide) ?_
          exact ih46 0 s152 H locs ls (by decide) hF154 hp153.1.1 hp153.1.2.1 hp153.1.2.2.1 hp153.1.2.2.2.1 (hp153.1.2.2.2.2.1.trans q46_4) (hp153.1.2.2.2.2.2.1.trans q46_5) (hp153.1.2.2.2.2.2.2.1.trans q46_6) (hp153.1.2.2.2.2.2.2.2.1.trans q46_7) (by first | exact Or.inl ⟨rfl, W67 (by omega)⟩ | exact Or.inl ⟨rfl, (H71.resolve_right (fun q => by omega)).2⟩ | exact Or.inr ⟨rfl, (H71.resolve_left (fun q => by omega)).2.1⟩) (by first | exact Q71 | exact Q64) (by omega) hW (lv_sub hl [1, 0] rfl)
        refine x_aload_n hx hb hl 0 rfl dX11_law_70 rfl ?_
        refine x_goi (x_runV (As := []) hx hb hml hown hT hE hW hl.1 (Or.inl (by decide)) (so_268 h0 g _) rfl cf_X11_readsClause wq1465 wq115 wq1463 (c_X11_readsClauseK l D g T h0 s152 hW.2.1 (xm8 (s0 276)) n (zL0 (xm8 (s0 276)) n (s0 277) (s0 279) (s0 280) (s0 281) (s0 282)) (⟨by rw [hF154 276 (by omega)], by omega⟩) (W64 (by omega)) hp153.1.1 hp153.1.2.1 hp153.1.2.2.1 hp153.1.2.2.2.1) ⟨rfl, rfl, ⟨by decide, by decide⟩, ⟨by decide, by decide⟩⟩ rfl rfl (Nat.le_of_ble_eq_true rfl) dX11_law_71) hW (fun x156 s157 H locs rx156 hp158 hW => ?_)
        obtain ⟨fs157, hp158⟩ := hp158
        have hF159 := hF154.call fs157 (fun k h => by omega)
        have ghp158 := hp158.2
        have H71 := ghp158
        have Q71 : s157 283 = s0 283 ∧ s157 284 = s0 284 ∧ s157 285 = s0 285 ∧ s157 286 = s0 286 ∧ s157 287 = s0 287 := ⟨(fs157 283 (by omega)).trans Q64.1, (fs157 284 (by omega)).trans Q64.2.1, (fs157 285 (by omega)).trans Q64.2.2.1, (fs157 286 (by omega)).trans Q64.2.2.2.1, (fs157 287 (by omega)).trans Q64.2.2.2.2⟩
        refine x_if_eq (tgt := 81) hx hb rx156 dX11_law_74 (by decide) (fun c160 => ?_) (fun c160 => ?_)
        · skip
          refine x_iconst hx hb dX11_law_81 ?_
          refine lv_istore_n (lv' := [(2, .int (xJ 0)), (0, .ref (h0 + 268))]) hx hb dX11_law_82 rfl hl (by decide) rfl (fun ls hl => ?_)
          refine lv_goto (tgt := 46) hx hb dX11_law_83 (by decide) ?_
          exact ih46 0 s157 H locs ls (by decide) hF159 hp158.1.1 hp158.1.2.1 hp158.1.2.2.1 hp158.1.2.2.2.1 (hp158.1.2.2.2.2.1.trans (hp153.1.2.2.2.2.1.trans q46_4)) (hp158.1.2.2.2.2.2.1.trans (hp153.1.2.2.2.2.2.1.trans q46_5)) (hp158.1.2.2.2.2.2.2.1.trans (hp153.1.2.2.2.2.2.2.1.trans q46_6)) (hp158.1.2.2.2.2.2.2.2.1.trans (hp153.1.2.2.2.2.2.2.2.1.trans q46_7)) (by first | exact Or.inl ⟨rfl, W67 (by omega)⟩ | exact Or.inl ⟨rfl, (H71.resolve_right (fun q => by omega)).2⟩ | exact Or.inr ⟨rfl, (H71.resolve_left (fun q => by omega)).2.1⟩) (by first | exact Q71 | exact Q64) (by omega) hW (lv_sub hl [1, 0] rfl)
        refine x_iconst hx hb dX11_law_77 ?_
        refine lv_goto (tgt := 82) hx hb dX11_law_78 (by decide) ?_
        refine lv_istore_n (lv' := [(2, .int (xJ 1)), (0, .ref (h0 + 268))]) hx hb dX11_law_82 rfl hl (by decide) rfl (fun ls hl => ?_)
        refine lv_goto (tgt := 46) hx hb dX11_law_83 (by decide) ?_
        exact ih46 1 s157 H locs ls (by decide) hF159 hp158.1.1 hp158.1.2.1 hp158.1.2.2.1 hp158.1.2.2.2.1 (hp158.1.2.2.2.2.1.trans (hp153.1.2.2.2.2.1.trans q46_4)) (hp158.1.2.2.2.2.2.1.trans (hp153.1.2.2.2.2.2.1.trans q46_5)) (hp158.1.2.2.2.2.2.2.1.trans (hp153.1.2.2.2.2.2.2.1.trans q46_6)) (hp158.1.2.2.2.2.2.2.2.1.trans (hp153.1.2.2.2.2.2.2.2.1.trans q46_7)) (by first | exact Or.inl ⟨rfl, W67 (by omega)⟩ | exact Or.inl ⟨rfl, (H71.resolve_right (fun q => by omega)).2⟩ | exact Or.inr ⟨rfl, (H71.resolve_left (fun q => by omega)).2.1⟩) (by first | exact Q71 | exact Q64) (by omega) hW (lv_sub hl [1, 0] rfl)
    exact L46 ((2 * (241 - s53 268 9) + x52 : Int).toNat + 1) x52 s53 H locs ls rx52 hF55 hp54.1.1 hp54.1.2.1 hp54.1.2.2.1 hp54.1.2.2.2.1 (hp54.1.2.2.2.2.1.trans q45) (hp54.1.2.2.2.2.2.1.trans q43) (hp54.1.2.2.2.2.2.2.1.trans q44) (hp54.1.2.2.2.2.2.2.2.1.trans q47) (H42.elim (fun q => Or.inl q) (fun q => Or.inr ⟨q.1, q.2.1⟩)) (Q42) (Nat.lt_succ_self _) hW (lv_sub hl [1, 0] rfl)
  refine x_iconst hx hb dX11_law_19 ?_
  rw [eQ]
  exact x_iret hx hb hr hlk hW (by decide) ⟨hF, ⟨p0, p1, p2, k268_58, k268_17, trivial⟩, Or.inl ⟨by omega, by omega, by omega, ⟨rfl, rfl, rfl, rfl, rfl, rfl⟩⟩⟩ dX11_law_20
