def zR2 (a b : Prop) : Prop := a ∨ b
set_option maxHeartbeats 4000000 in
set_option maxRecDepth 100000 in
theorem c_X11_lawK (l : Launch) (D : va_G) (g : xG) (T : Nat × Nat × Nat) (h0 : Nat) (s0 : xS) (hσ : xRR s0) (n : Int) (rn : xR n) (p0 : IMn s0) (p1 : IMk s0) (p2 : IMo s0) : Met l yX11_law (xws yX11_law cX11_law 4 (some .int)) { frames := 8, cells := 0, slots := 0, locals := 166 } (xP [.ref (h0 + 268), .int (xJ n)] D g T h0 s0) (xQi D g h0 (fun r τ => xFr (fun k => k = 268 ∨ k = 277 ∨ k = 278 ∨ k = 279 ∨ k = 280 ∨ k = 281 ∨ k = 282 ∨ k = 283 ∨ k = 284 ∨ k = 285 ∨ k = 286 ∨ k = 287) s0 τ ∧ (((IMn τ) ∧ (IMk τ) ∧ (IMo τ) ∧ (τ 268 58 = s0 268 58) ∧ True) ∧ (((n < 1 ∨ 240 < n ∨ s0 268 8 < n) ∧ τ 268 8 = s0 268 8 ∧ r = -1 ∧ (τ 283 = s0 283 ∧ τ 284 = s0 284 ∧ τ 285 = s0 285 ∧ τ 286 = s0 286 ∧ τ 287 = s0 287 ∧ τ 268 17 = s0 268 17)) ∨ (¬ (n < 1 ∨ 240 < n ∨ s0 268 8 < n) ∧ τ 268 8 = 0 ∧ (((zL0 (xm8 (s0 276)) n (s0 277) (s0 279) (s0 280) (s0 281) (s0 282)).1 ≠ 0 ∧ r = (zL0 (xm8 (s0 276)) n (s0 277) (s0 279) (s0 280) (s0 281) (s0 282)).1 ∧ (τ 283 = s0 283 ∧ τ 284 = s0 284 ∧ τ 285 = s0 285 ∧ τ 286 = s0 286 ∧ τ 287 = s0 287 ∧ τ 268 17 = s0 268 17)) ∨ (∃ M2 c2 C2 L2 A2 B2 T2, (zL0 (xm8 (s0 276)) n (s0 277) (s0 279) (s0 280) (s0 281) (s0 282)) = (0, M2, c2, C2, L2, A2, B2, T2) ∧ r = M2 ∧ τ 268 17 = M2 ∧ (∀ k, 0 ≤ k → k < c2 → τ 283 k = C2 k) ∧ ∀ q, 0 ≤ q → q < M2 → τ 284 q = L2 q ∧ τ 285 q = A2 q ∧ τ 286 q = B2 q ∧ τ 287 q = T2 q))))))) 0 0 (xA h0) := by
  refine x_met hσ (by decide) (Nat.le_of_ble_eq_true rfl) ?_
  intro p e s m args below meth c hx hb hr hml hown hT hlk hnm hE hW ls hl
  have hl : lv_has ls 4 [(0, .ref (h0 + 268)), (1, .int (xJ n))] := hl
  obtain ⟨Q, eQ⟩ : ∃ Q, Q = MQ below (xQi D g h0 (fun r τ => xFr (fun k => k = 268 ∨ k = 277 ∨ k = 278 ∨ k = 279 ∨ k = 280 ∨ k = 281 ∨ k = 282 ∨ k = 283 ∨ k = 284 ∨ k = 285 ∨ k = 286 ∨ k = 287) s0 τ ∧ (((IMn τ) ∧ (IMk τ) ∧ (IMo τ) ∧ (τ 268 58 = s0 268 58) ∧ True) ∧ (((n < 1 ∨ 240 < n ∨ s0 268 8 < n) ∧ τ 268 8 = s0 268 8 ∧ r = -1 ∧ (τ 283 = s0 283 ∧ τ 284 = s0 284 ∧ τ 285 = s0 285 ∧ τ 286 = s0 286 ∧ τ 287 = s0 287 ∧ τ 268 17 = s0 268 17)) ∨ (¬ (n < 1 ∨ 240 < n ∨ s0 268 8 < n) ∧ τ 268 8 = 0 ∧ (((zL0 (xm8 (s0 276)) n (s0 277) (s0 279) (s0 280) (s0 281) (s0 282)).1 ≠ 0 ∧ r = (zL0 (xm8 (s0 276)) n (s0 277) (s0 279) (s0 280) (s0 281) (s0 282)).1 ∧ (τ 283 = s0 283 ∧ τ 284 = s0 284 ∧ τ 285 = s0 285 ∧ τ 286 = s0 286 ∧ τ 287 = s0 287 ∧ τ 268 17 = s0 268 17)) ∨ (∃ M2 c2 C2 L2 A2 B2 T2, (zL0 (xm8 (s0 276)) n (s0 277) (s0 279) (s0 280) (s0 281) (s0 282)) = (0, M2, c2, C2, L2, A2, B2, T2) ∧ r = M2 ∧ τ 268 17 = M2 ∧ (∀ k, 0 ≤ k → k < c2 → τ 283 k = C2 k) ∧ ∀ q, 0 ≤ q → q < M2 → τ 284 q = L2 q ∧ τ 285 q = A2 q ∧ τ 286 q = B2 q ∧ τ 287 q = T2 q))))))) args s 0 0 (xA h0) := ⟨_, rfl⟩
  rw [← eQ]
  generalize hHe : ([] : List Loc) = locs at hW ⊢
  obtain ⟨H, eH⟩ : ∃ H, H = s.heap := ⟨_, rfl⟩
  rw [← eH] at hW ⊢
  have hF : xFr (fun k => k = 268 ∨ k = 277 ∨ k = 278 ∨ k = 279 ∨ k = 280 ∨ k = 281 ∨ k = 282 ∨ k = 283 ∨ k = 284 ∨ k = 285 ∨ k = 286 ∨ k = 287) s0 s0 := xFr.rf
  have k268_58 : s0 268 58 = s0 268 58 := rfl
  have k268_8 : s0 268 8 = s0 268 8 := rfl
  have k268_17 : s0 268 17 = s0 268 17 := rfl
  obtain ⟨ZM, eZM⟩ : ∃ Z, Z = (zL0 (xm8 (s0 276)) n (s0 277) (s0 279) (s0 280) (s0 281) (s0 282)) := ⟨_, rfl⟩
  refine x_iload_n hx hb hl 1 rfl dX11_law_0 rfl ?_
  refine x_iconst hx hb dX11_law_1 ?_
  refine x_sipush hx hb dX11_law_2 (by decide) ?_
  refine x_goi (x_runS (As := [.int (xJ n), .int (xJ 1), .int (xJ 240)]) hx hb hml hown hT hE hW hl.1 cf_X11_in wq1383 wq1382 (c_X11_in l D g T h0 s0 hW.2.1 n rn 1 (by decide) 240 (by decide)) ⟨rfl, rfl, ⟨by decide, by decide⟩, ⟨by decide, by decide⟩⟩ rfl rfl (Nat.le_of_ble_eq_true rfl) dX11_law_5) hW (fun x1 s2 H locs rx1 hp3 hW => ?_)
  obtain ⟨es2, hp3⟩ := hp3
  subst es2
  have ghp3 := hp3
  refine x_if_eq (tgt := 19) hx hb rx1 dX11_law_8 (by decide) (fun c4 => ?_) (fun c4 => ?_)
  · skip
    refine x_iconst hx hb dX11_law_19 ?_
    rw [eQ]
    exact x_iret hx hb hr hlk hW (by decide) ⟨hF, ⟨p0, p1, p2, k268_58, trivial⟩, Or.inl ⟨by omega, by omega, by omega, ⟨rfl, rfl, rfl, rfl, rfl, rfl⟩⟩⟩ dX11_law_20
  refine x_iload_n hx hb hl 1 rfl dX11_law_11 rfl ?_
  have n5 : 1 ≤ n ∧ n ≤ 240 := by omega
  clear ghp3 hp3
  refine x_aload_n hx hb hl 0 rfl dX11_law_12 rfl ?_
  refine x_get (j := 8) (v := .int (xJ (s0 268 8))) hx hb hown hT hE hW cls_X11 (Or.inl (by decide)) (so_268 h0 g _) (by decide) rfl wq1193 dX11_law_13 ?_
  refine x_rd hW (fun x5 ex5 rx5 => ?_)
  have bx5 : 0 ≤ x5 ∧ x5 ≤ 260 := by rw [ex5]; exact IMn.t p0
  have fx5 : x5 = s0 268 8 := ex5.trans k268_8
  refine x_icmp_le (tgt := 21) hx hb rn rx5 dX11_law_16 (by decide) (fun c6 => ?_) (fun c6 => ?_)
  · skip
    refine x_aload_n hx hb hl 0 rfl dX11_law_21 rfl ?_
    refine x_iconst hx hb dX11_law_22 ?_
    refine x_put (j := 9) hx hb hown hT hE hW cls_X11 (by decide) (fun σ => so_268 h0 g σ) (by decide) (st_X11_9 h0 s0 268 0) (ln_X11_9 h0 _ _) wq1194 rfl rfl rfl (by decide) dX11_law_23 (fun H locs s7 es7 hW => ?_)
    have q8 : IMn s7 := by rw [es7]; exact IMn_268 p0 (by omega)
    have q9 : IMk s7 := by rw [es7]; exact IMk_268 p1 (by omega)
    have q10 : IMo s7 := by rw [es7]; exact IMo_o (by unfold suIMo; decide) p2
    have q11 : s7 268 58 = s0 268 58 := (show s7 268 58 = s0 268 58 from by rw [es7, xU_j _ _ (by decide)]).trans k268_58
    have q12 : s7 268 8 = s0 268 8 := (show s7 268 8 = s0 268 8 from by rw [es7, xU_j _ _ (by decide)]).trans k268_8
    have q13 : s7 268 17 = s0 268 17 := (show s7 268 17 = s0 268 17 from by rw [es7, xU_j _ _ (by decide)]).trans k268_17
    have q14 : s7 268 9 = 0 := by rw [es7, xU_s]
    have hF15 := hF.put es7 (by omega)
    have E23 := es7
    have hCN : ¬ (n < 1 ∨ 240 < n ∨ s0 268 8 < n) := by omega
    refine x_aload_n hx hb hl 0 rfl dX11_law_26 rfl ?_
    refine x_iload_n hx hb hl 1 rfl dX11_law_27 rfl ?_
    refine x_put (j := 10) hx hb hown hT hE hW cls_X11 (by decide) (fun σ => so_268 h0 g σ) (by decide) (st_X11_10 h0 s7 268 n) (ln_X11_10 h0 _ _) wq1195 rfl rfl rfl rn dX11_law_28 (fun H locs s16 es16 hW => ?_)
    have q17 : IMn s16 := by rw [es16]; exact IMn_268 q8 (by omega)
    have q18 : IMk s16 := by rw [es16]; exact IMk_268 q9 (by omega)
    have q19 : IMo s16 := by rw [es16]; exact IMo_o (by unfold suIMo; decide) q10
    have q20 : s16 268 58 = s0 268 58 := (show s16 268 58 = s7 268 58 from by rw [es16, xU_j _ _ (by decide)]).trans q11
    have q21 : s16 268 8 = s0 268 8 := (show s16 268 8 = s7 268 8 from by rw [es16, xU_j _ _ (by decide)]).trans q12
    have q22 : s16 268 17 = s0 268 17 := (show s16 268 17 = s7 268 17 from by rw [es16, xU_j _ _ (by decide)]).trans q13
    have q23 : s16 268 9 = 0 := (show s16 268 9 = s7 268 9 from by rw [es16, xU_j _ _ (by decide)]).trans q14
    have q24 : s16 268 10 = n := by rw [es16, xU_s]
    have hF25 := hF15.put es16 (by omega)
    have q26 : IR s16 := by unfold IR; omega
    have E28 := es16
    refine x_aload_n hx hb hl 0 rfl dX11_law_31 rfl ?_
    refine x_iconst hx hb dX11_law_32 ?_
    refine x_put (j := 14) hx hb hown hT hE hW cls_X11 (by decide) (fun σ => so_268 h0 g σ) (by decide) (st_X11_14 h0 s16 268 0) (ln_X11_14 h0 _ _) wq1199 rfl rfl rfl (by decide) dX11_law_33 (fun H locs s27 es27 hW => ?_)
    have q28 : IMn s27 := by rw [es27]; exact IMn_268 q17 (by omega)
    have q29 : IMk s27 := by rw [es27]; exact IMk_268 q18 (by omega)
    have q30 : IMo s27 := by rw [es27]; exact IMo_o (by unfold suIMo; decide) q19
    have q31 : s27 268 58 = s0 268 58 := (show s27 268 58 = s16 268 58 from by rw [es27, xU_j _ _ (by decide)]).trans q20
    have q32 : s27 268 8 = s0 268 8 := (show s27 268 8 = s16 268 8 from by rw [es27, xU_j _ _ (by decide)]).trans q21
    have q33 : s27 268 17 = s0 268 17 := (show s27 268 17 = s16 268 17 from by rw [es27, xU_j _ _ (by decide)]).trans q22
    have q34 : s27 268 9 = 0 := (show s27 268 9 = s16 268 9 from by rw [es27, xU_j _ _ (by decide)]).trans q23
    have q35 : s27 268 10 = n := (show s27 268 10 = s16 268 10 from by rw [es27, xU_j _ _ (by decide)]).trans q24
    have q36 : IR s27 := by rw [es27]; exact IR_268 q26 (by omega)
    have q37 : s27 268 14 = 0 := by rw [es27, xU_s]
    have hF38 := hF25.put es27 (by omega)
    have E33 := es27
    refine x_aload_n hx hb hl 0 rfl dX11_law_36 rfl ?_
    refine x_iconst hx hb dX11_law_37 ?_
    refine x_put (j := 16) hx hb hown hT hE hW cls_X11 (by decide) (fun σ => so_268 h0 g σ) (by decide) (st_X11_16 h0 s27 268 0) (ln_X11_16 h0 _ _) wq1201 rfl rfl rfl (by decide) dX11_law_38 (fun H locs s39 es39 hW => ?_)
    have q40 : IMn s39 := by rw [es39]; exact IMn_268 q28 (by omega)
    have q41 : IMk s39 := by rw [es39]; exact IMk_268 q29 (by omega)
    have q42 : IMo s39 := by rw [es39]; exact IMo_o (by unfold suIMo; decide) q30
    have q43 : s39 268 58 = s0 268 58 := (show s39 268 58 = s27 268 58 from by rw [es39, xU_j _ _ (by decide)]).trans q31
    have q44 : s39 268 8 = s0 268 8 := (show s39 268 8 = s27 268 8 from by rw [es39, xU_j _ _ (by decide)]).trans q32
    have q45 : s39 268 17 = s0 268 17 := (show s39 268 17 = s27 268 17 from by rw [es39, xU_j _ _ (by decide)]).trans q33
    have q46 : s39 268 9 = 0 := (show s39 268 9 = s27 268 9 from by rw [es39, xU_j _ _ (by decide)]).trans q34
    have q47 : s39 268 10 = n := (show s39 268 10 = s27 268 10 from by rw [es39, xU_j _ _ (by decide)]).trans q35
    have q48 : IR s39 := by rw [es39]; exact IR_268 q36 (by omega)
    have q49 : s39 268 14 = 0 := (show s39 268 14 = s27 268 14 from by rw [es39, xU_j _ _ (by decide)]).trans q37
    have q50 : s39 268 16 = 0 := by rw [es39, xU_s]
    have hF51 := hF38.put es39 (by omega)
    have E38 := es39
    have Q38 : s39 283 = s0 283 ∧ s39 284 = s0 284 ∧ s39 285 = s0 285 ∧ s39 286 = s0 286 ∧ s39 287 = s0 287 := by rw [E38, xU_k _ _ _ (by decide), xU_k _ _ _ (by decide), xU_k _ _ _ (by decide), xU_k _ _ _ (by decide), xU_k _ _ _ (by decide), E33, xU_k _ _ _ (by decide), xU_k _ _ _ (by decide), xU_k _ _ _ (by decide), xU_k _ _ _ (by decide), xU_k _ _ _ (by decide), E28, xU_k _ _ _ (by decide), xU_k _ _ _ (by decide), xU_k _ _ _ (by decide), xU_k _ _ _ (by decide), xU_k _ _ _ (by decide), E23, xU_k _ _ _ (by decide), xU_k _ _ _ (by decide), xU_k _ _ _ (by decide), xU_k _ _ _ (by decide), xU_k _ _ _ (by decide)]; exact ⟨rfl, rfl, rfl, rfl, rfl⟩
    have P38 : s39 277 = s0 277 ∧ s39 279 = s0 279 ∧ s39 280 = s0 280 ∧ s39 281 = s0 281 ∧ s39 282 = s0 282 := by rw [E38, xU_k _ _ _ (by decide), xU_k _ _ _ (by decide), xU_k _ _ _ (by decide), xU_k _ _ _ (by decide), xU_k _ _ _ (by decide), E33, xU_k _ _ _ (by decide), xU_k _ _ _ (by decide), xU_k _ _ _ (by decide), xU_k _ _ _ (by decide), xU_k _ _ _ (by decide), E28, xU_k _ _ _ (by decide), xU_k _ _ _ (by decide), xU_k _ _ _ (by decide), xU_k _ _ _ (by decide), xU_k _ _ _ (by decide), E23, xU_k _ _ _ (by decide), xU_k _ _ _ (by decide), xU_k _ _ _ (by decide), xU_k _ _ _ (by decide), xU_k _ _ _ (by decide)]; exact ⟨rfl, rfl, rfl, rfl, rfl⟩
    have Z38 : zLX (xm8 (s0 276)) n ZM true (s39 268 16) (s39 268 9) (s39 268 14) (s39 277) (s39 279) (s39 280) (s39 281) (s39 282) := by
      rw [show s39 268 16 = 0 from by omega, show s39 268 9 = 0 from by omega, show s39 268 14 = 0 from by omega, P38.1, P38.2.1, P38.2.2.1, P38.2.2.2.1, P38.2.2.2.2, eZM]
      exact zLX.new (by omega)
    refine x_aload_n hx hb hl 0 rfl dX11_law_41 rfl ?_
    refine x_goi (x_runV (As := []) hx hb hml hown hT hE hW hl.1 (Or.inl (by decide)) (so_268 h0 g _) rfl cf_X11_readsClause wq1465 wq115 wq1463 (c_X11_readsClauseK l D g T h0 s39 hW.2.1 (xm8 (s0 276)) n ZM (⟨by rw [hF51 276 (by omega)], by omega⟩) (Z38) q40 q41 q42 q48) ⟨rfl, rfl, ⟨by decide, by decide⟩, ⟨by decide, by decide⟩⟩ rfl rfl (Nat.le_of_ble_eq_true rfl) dX11_law_42) hW (fun x52 s53 H locs rx52 hp54 hW => ?_)
    obtain ⟨fs53, hp54⟩ := hp54
    have hF55 := hF51.call fs53 (fun k h => by omega)
    have ghp54 := hp54.2
    have H42 := fun (_ : Unit) => ghp54
    clear ghp54
    replace hp54 := And.intro hp54.1 trivial
    have Q42 : s53 283 = s0 283 ∧ s53 284 = s0 284 ∧ s53 285 = s0 285 ∧ s53 286 = s0 286 ∧ s53 287 = s0 287 := ⟨(fs53 283 (by omega)).trans Q38.1, (fs53 284 (by omega)).trans Q38.2.1, (fs53 285 (by omega)).trans Q38.2.2.1, (fs53 286 (by omega)).trans Q38.2.2.2.1, (fs53 287 (by omega)).trans Q38.2.2.2.2⟩
    refine lv_istore_n (lv' := [(2, .int (xJ x52)), (0, .ref (h0 + 268)), (1, .int (xJ n))]) hx hb dX11_law_45 rfl hl (by decide) rfl (fun ls hl => ?_)
    have L46 : ∀ (fu : Nat) (i2_46 : Int) (s_46 : xS) (H : Heap) (locs : List Loc) (ls : Array Slot), (xR i2_46) → (xFr (fun k => k = 268 ∨ k = 277 ∨ k = 278 ∨ k = 279 ∨ k = 280 ∨ k = 281 ∨ k = 282 ∨ k = 283 ∨ k = 284 ∨ k = 285 ∨ k = 286 ∨ k = 287) s0 s_46) → (IMn s_46) → (IMk s_46) → (IMo s_46) → (IR s_46) → (s_46 268 8 = s0 268 8) → (s_46 268 58 = s0 268 58) → (s_46 268 17 = s0 268 17) → (s_46 268 10 = n) → (zR2 (i2_46 = 0 ∧ ZM.1 ≠ 0 ∧ s_46 268 11 = ZM.1) (i2_46 = 1 ∧ zLX (xm8 (s0 276)) n ZM false (s_46 268 16) (s_46 268 9) (s_46 268 14) (s_46 277) (s_46 279) (s_46 280) (s_46 281) (s_46 282))) → (s_46 283 = s0 283 ∧ s_46 284 = s0 284 ∧ s_46 285 = s0 285 ∧ s_46 286 = s0 286 ∧ s_46 287 = s0 287) → (i2_46 * (242 - s_46 268 9)).toNat < fu → xW D g h0 s H locs s_46 → lv_has ls 4 [(0, .ref (h0 + 268)), (2, .int (xJ i2_46))] → W p l e { frames := 8, cells := 0, slots := 0, locals := 166 } s m args below meth c H locs 0 0 Q (F0 m 46 ls []) := by
      intro fu
      induction fu with
      | zero => intro i2_46 s_46 H locs ls ri2_46 hF_46 q46_0 q46_1 q46_2 q46_3 q46_4 q46_5 q46_6 q46_7 v46_0 v46_1 hm; exact absurd hm (Nat.not_lt_zero _)
      | succ fu ih46 =>
        intro i2_46 s_46 H locs ls ri2_46 hF_46 q46_0 q46_1 q46_2 q46_3 q46_4 q46_5 q46_6 q46_7 v46_0 v46_1 hm hW hl
        have hm_46 := fun (_ : Unit) => hm
        clear hm
        have r46 : 0 ≤ s_46 268 9 ∧ s_46 268 9 ≤ s_46 268 10 ∧ s_46 268 10 ≤ 240 := q46_3
        refine x_iload_n hx hb hl 1 rfl dX11_law_46 rfl ?_
        have J86 : ∀ (ls : Array Slot), (zR2 (i2_46 = 0 ∧ ZM.1 ≠ 0 ∧ s_46 268 11 = ZM.1) (i2_46 = 1 ∧ ZM = (0, s_46 268 16, s_46 268 14, s_46 277, s_46 279, s_46 280, s_46 281, s_46 282))) → lv_has ls 4 [(0, .ref (h0 + 268)), (2, .int (xJ i2_46))] → W p l e { frames := 8, cells := 0, slots := 0, locals := 166 } s m args below meth c H locs 0 0 Q (F0 m 86 ls []) := by
          intro ls v86_0  hl
          refine x_aload_n hx hb hl 0 rfl dX11_law_86 rfl ?_
          refine x_iconst hx hb dX11_law_87 ?_
          refine x_put (j := 8) hx hb hown hT hE hW cls_X11 (by decide) (fun σ => so_268 h0 g σ) (by decide) (st_X11_8 h0 s_46 268 0) (ln_X11_8 h0 _ _) wq1193 rfl rfl rfl (by decide) dX11_law_88 (fun H locs s56 es56 hW => ?_)
          have q57 : IMn s56 := by rw [es56]; exact IMn_268 q46_0 (by omega)
          have q58 : IMk s56 := by rw [es56]; exact IMk_268 q46_1 (by omega)
          have q59 : IMo s56 := by rw [es56]; exact IMo_o (by unfold suIMo; decide) q46_2
          have q60 : IR s56 := by rw [es56]; exact IR_268 q46_3 (by omega)
          have q61 : s56 268 8 = 0 := by rw [es56, xU_s]
          have q62 : s56 268 58 = s0 268 58 := (show s56 268 58 = s_46 268 58 from by rw [es56, xU_j _ _ (by decide)]).trans q46_5
          have q63 : s56 268 17 = s0 268 17 := (show s56 268 17 = s_46 268 17 from by rw [es56, xU_j _ _ (by decide)]).trans q46_6
          have q64 : s56 268 10 = n := (show s56 268 10 = s_46 268 10 from by rw [es56, xU_j _ _ (by decide)]).trans q46_7
          have hF65 := hF_46.put es56 (by omega)
          have E88 := es56
          have K88 : s56 268 11 = s_46 268 11 := by rw [E88, xU_j _ _ (by decide)]
          have Q88 : s56 283 = s0 283 ∧ s56 284 = s0 284 ∧ s56 285 = s0 285 ∧ s56 286 = s0 286 ∧ s56 287 = s0 287 := by rw [E88, xU_k _ _ _ (by decide), xU_k _ _ _ (by decide), xU_k _ _ _ (by decide), xU_k _ _ _ (by decide), xU_k _ _ _ (by decide)]; exact v46_1
          refine x_iload_n hx hb hl 1 rfl dX11_law_91 rfl ?_
          refine x_if_ne (tgt := 100) hx hb ri2_46 dX11_law_92 (by decide) (fun c66 => ?_) (fun c66 => ?_)
          · skip
            refine x_aload_n hx hb hl 0 rfl dX11_law_100 rfl ?_
            refine x_aload_n hx hb hl 0 rfl dX11_law_101 rfl ?_
            refine x_get (j := 16) (v := .int (xJ (s56 268 16))) hx hb hown hT hE hW cls_X11 (Or.inl (by decide)) (so_268 h0 g _) (by decide) rfl wq1201 dX11_law_102 ?_
            refine x_rd hW (fun x67 ex67 rx67 => ?_)
            have q68 : s56 268 16 = x67 := ex67.symm
            refine x_put (j := 17) hx hb hown hT hE hW cls_X11 (by decide) (fun σ => so_268 h0 g σ) (by decide) (st_X11_17 h0 s56 268 x67) (ln_X11_17 h0 _ _) wq1202 rfl rfl rfl rx67 dX11_law_105 (fun H locs s69 es69 hW => ?_)
            have q70 : IMn s69 := by rw [es69]; exact IMn_268 q57 (by omega)
            have q71 : IMo s69 := by rw [es69]; exact IMo_o (by unfold suIMo; decide) q59
            have q72 : IR s69 := by rw [es69]; exact IR_268 q60 (by omega)
            have q73 : s69 268 8 = 0 := (show s69 268 8 = s56 268 8 from by rw [es69, xU_j _ _ (by decide)]).trans q61
            have q74 : s69 268 58 = s0 268 58 := (show s69 268 58 = s56 268 58 from by rw [es69, xU_j _ _ (by decide)]).trans q62
            have q75 : s69 268 17 = x67 := by rw [es69, xU_s]
            have q76 : s69 268 10 = n := (show s69 268 10 = s56 268 10 from by rw [es69, xU_j _ _ (by decide)]).trans q64
            have q77 : s69 268 16 = x67 := (show s69 268 16 = s56 268 16 from by rw [es69, xU_j _ _ (by decide)]).trans q68
            have hF78 := hF65.put es69 (by omega)
            have E105 := es69
            have M105 : s69 268 14 = s_46 268 14 ∧ s69 268 16 = s_46 268 16 := by rw [E105, xU_j _ _ (by decide), xU_j _ _ (by decide), E88, xU_j _ _ (by decide), xU_j _ _ (by decide)]; exact ⟨rfl, rfl⟩
            obtain ⟨M6, eM6⟩ : ∃ p : Int, p = s_46 268 16 := ⟨_, rfl⟩
            obtain ⟨c6, ec6⟩ : ∃ p : Int, p = s_46 268 14 := ⟨_, rfl⟩
            obtain ⟨K6, eK6⟩ : ∃ K, K = s_46 277 := ⟨_, rfl⟩
            obtain ⟨K7, eK7⟩ : ∃ K, K = s_46 279 := ⟨_, rfl⟩
            obtain ⟨K8, eK8⟩ : ∃ K, K = s_46 280 := ⟨_, rfl⟩
            obtain ⟨K9, eK9⟩ : ∃ K, K = s_46 281 := ⟨_, rfl⟩
            obtain ⟨K0, eK0⟩ : ∃ K, K = s_46 282 := ⟨_, rfl⟩
            have e6 : ZM = (0, M6, c6, K6, K7, K8, K9, K0) := by rw [eM6, ec6, eK6, eK7, eK8, eK9, eK0]; exact (v86_0.resolve_left (fun q => by omega)).2
            have w6 := zL0_wf (by omega) (eZM.symm.trans e6)
            have Q105 : (s69 277 = K6 ∧ s69 279 = K7 ∧ s69 280 = K8 ∧ s69 281 = K9 ∧ s69 282 = K0) ∧ (s69 268 14 = c6 ∧ s69 268 16 = M6 ∧ s69 268 17 = M6) := ⟨by rw [E105, xU_k _ _ _ (by decide), xU_k _ _ _ (by decide), xU_k _ _ _ (by decide), xU_k _ _ _ (by decide), xU_k _ _ _ (by decide), E88, xU_k _ _ _ (by decide), xU_k _ _ _ (by decide), xU_k _ _ _ (by decide), xU_k _ _ _ (by decide), xU_k _ _ _ (by decide)]; exact ⟨eK6.symm, eK7.symm, eK8.symm, eK9.symm, eK0.symm⟩, by omega⟩
            refine x_iconst hx hb dX11_law_108 ?_
            refine lv_istore_n (lv' := [(3, .int (xJ 0)), (0, .ref (h0 + 268)), (2, .int (xJ i2_46))]) hx hb dX11_law_109 rfl hl (by decide) rfl (fun ls hl => ?_)
            clear E105 E23 E28 E33 E38 E88 H42 K88 M105 P38 Q38 Q42 Q88 Z38 bx5 c4 c66 eK0 eK6 eK7 eK8 eK9 eM6 ec6 es16 es27 es39 es56 es69 es7 ex5 ex67 fs53 fx5 hF15 hF25 hF38 hF51 hF55 hF65 hF_46 hm_46 hp54 k268_17 k268_58 k268_8 n5 q10 q11 q12 q13 q14 q17 q18 q19 q20 q21 q22 q23 q24 q26 q28 q29 q30 q31 q32 q33 q34 q35 q36 q37 q40 q41 q42 q43 q44 q45 q46 q46_0 q46_1 q46_2 q46_3 q46_4 q46_5 q46_6 q46_7 q47 q48 q49 q50 q57 q58 q59 q60 q61 q62 q63 q64 q68 q8 q9 r46 rx1 rx5 rx52 rx67 v46_0 v46_1 v86_0
            have L110 : ∀ (fu : Nat) (i3_110 : Int) (s_110 : xS) (H : Heap) (locs : List Loc) (ls : Array Slot), (xR i3_110) → (xFr (fun k => k = 268 ∨ k = 277 ∨ k = 278 ∨ k = 279 ∨ k = 280 ∨ k = 281 ∨ k = 282 ∨ k = 283 ∨ k = 284 ∨ k = 285 ∨ k = 286 ∨ k = 287) s0 s_110) → (IMn s_110) → (IMo s_110) → (IR s_110) → (s_110 268 8 = 0) → (s_110 268 58 = s0 268 58) → (s_110 268 17 = x67) → (s_110 268 10 = n) → (s_110 268 16 = x67) → (0 ≤ i3_110 ∧ i3_110 ≤ c6) → (s_110 277 = K6 ∧ s_110 279 = K7 ∧ s_110 280 = K8 ∧ s_110 281 = K9 ∧ s_110 282 = K0) → (s_110 268 14 = c6 ∧ s_110 268 16 = M6 ∧ s_110 268 17 = M6) → (∀ q : Int, 0 ≤ q → q < i3_110 → s_110 283 q = K6 q) → (241 - i3_110).toNat < fu → xW D g h0 s H locs s_110 → lv_has ls 4 [(0, .ref (h0 + 268)), (3, .int (xJ i3_110))] → W p l e { frames := 8, cells := 0, slots := 0, locals := 166 } s m args below meth c H locs 0 0 Q (F0 m 110 ls []) := by
              intro fu
              induction fu with
              | zero => intro i3_110 s_110 H locs ls ri3_110 hF_110 q110_0 q110_1 q110_2 q110_3 q110_4 q110_5 q110_6 q110_7 v110_0 v110_1 v110_2 v110_3 hm; exact absurd hm (Nat.not_lt_zero _)
              | succ fu ih110 =>
                intro i3_110 s_110 H locs ls ri3_110 hF_110 q110_0 q110_1 q110_2 q110_3 q110_4 q110_5 q110_6 q110_7 v110_0 v110_1 v110_2 v110_3 hm hW hl
                have hm_110 := fun (_ : Unit) => hm
                clear hm
                refine x_iload_n hx hb hl 1 rfl dX11_law_110 rfl ?_
                refine x_aload_n hx hb hl 0 rfl dX11_law_111 rfl ?_
                refine x_get (j := 14) (v := .int (xJ (s_110 268 14))) hx hb hown hT hE hW cls_X11 (Or.inl (by decide)) (so_268 h0 g _) (by decide) rfl wq1199 dX11_law_112 ?_
                refine x_rd hW (fun x79 ex79 rx79 => ?_)
                have q80 : s_110 268 14 = x79 := ex79.symm
                refine x_icmp_ge (tgt := 136) hx hb ri3_110 rx79 dX11_law_115 (by decide) (fun c81 => ?_) (fun c81 => ?_)
                · skip
                  refine x_iconst hx hb dX11_law_136 ?_
                  refine lv_istore_n (lv' := [(3, .int (xJ 0)), (0, .ref (h0 + 268))]) hx hb dX11_law_137 rfl hl (by decide) rfl (fun ls hl => ?_)
                  clear Q105 ex79 hF78 hm_110 q70 q71 q72 q73 q74 q75 q76 q77 rx79 v110_0
                  have L138 : ∀ (fu : Nat) (i3_138 : Int) (s_138 : xS) (H : Heap) (locs : List Loc) (ls : Array Slot), (xR i3_138) → (xFr (fun k => k = 268 ∨ k = 277 ∨ k = 278 ∨ k = 279 ∨ k = 280 ∨ k = 281 ∨ k = 282 ∨ k = 283 ∨ k = 284 ∨ k = 285 ∨ k = 286 ∨ k = 287) s0 s_138) → (IMn s_138) → (IMo s_138) → (IR s_138) → (s_138 268 8 = 0) → (s_138 268 58 = s0 268 58) → (s_138 268 17 = x67) → (s_138 268 10 = n) → (s_138 268 16 = x67) → (s_138 268 14 = x79) → (0 ≤ i3_138 ∧ i3_138 ≤ M6) → (s_138 277 = K6 ∧ s_138 279 = K7 ∧ s_138 280 = K8 ∧ s_138 281 = K9 ∧ s_138 282 = K0) → (s_138 268 14 = c6 ∧ s_138 268 16 = M6 ∧ s_138 268 17 = M6) → (∀ q : Int, 0 ≤ q → q < c6 → s_138 283 q = K6 q) → (∀ q : Int, 0 ≤ q → q < i3_138 → s_138 284 q = K7 q ∧ s_138 285 q = K8 q ∧ s_138 286 q = K9 q ∧ s_138 287 q = K0 q) → (17 - i3_138).toNat < fu → xW D g h0 s H locs s_138 → lv_has ls 4 [(0, .ref (h0 + 268)), (3, .int (xJ i3_138))] → W p l e { frames := 8, cells := 0, slots := 0, locals := 166 } s m args below meth c H locs 0 0 Q (F0 m 138 ls []) := by
                    intro fu
                    induction fu with
                    | zero => intro i3_138 s_138 H locs ls ri3_138 hF_138 q138_0 q138_1 q138_2 q138_3 q138_4 q138_5 q138_6 q138_7 q138_8 v138_0 v138_1 v138_2 v138_3 v138_4 hm; exact absurd hm (Nat.not_lt_zero _)
                    | succ fu ih138 =>
                      intro i3_138 s_138 H locs ls ri3_138 hF_138 q138_0 q138_1 q138_2 q138_3 q138_4 q138_5 q138_6 q138_7 q138_8 v138_0 v138_1 v138_2 v138_3 v138_4 hm hW hl
                      have hm_138 := fun (_ : Unit) => hm
                      clear hm
                      refine x_iload_n hx hb hl 1 rfl dX11_law_138 rfl ?_
                      refine x_aload_n hx hb hl 0 rfl dX11_law_139 rfl ?_
                      refine x_get (j := 16) (v := .int (xJ (s_138 268 16))) hx hb hown hT hE hW cls_X11 (Or.inl (by decide)) (so_268 h0 g _) (by decide) rfl wq1201 dX11_law_140 ?_
                      refine x_rd hW (fun x82 ex82 rx82 => ?_)
                      have fx82 : x82 = x67 := ex82.trans q138_7
                      refine x_icmp_ge (tgt := 200) hx hb ri3_138 rx82 dX11_law_143 (by decide) (fun c83 => ?_) (fun c83 => ?_)
                      · skip
                        refine x_aload_n hx hb hl 0 rfl dX11_law_200 rfl ?_
                        refine x_get (j := 16) (v := .int (xJ (s_138 268 16))) hx hb hown hT hE hW cls_X11 (Or.inl (by decide)) (so_268 h0 g _) (by decide) rfl wq1201 dX11_law_201 ?_
                        refine x_rd hW (fun x84 ex84 rx84 => ?_)
                        have fx84 : x84 = x67 := ex84.trans q138_7
                        rw [eQ]
                        exact x_iret hx hb hr hlk hW rx84 ⟨hF_138, ⟨q138_0, (w6.1.imk (by omega) w6.2.2.2 w6.2.2.1 (fun k k1 k2 => v138_3 k k1 k2) (fun q q1 q2 => v138_4 q q1 (by omega))), q138_1, q138_4, trivial⟩, by
    rw [← eZM]
    exact Or.inr ⟨hCN, by omega, Or.inr ⟨M6, c6, K6, K7, K8, K9, K0, e6, by omega, by omega, fun k k1 k2 => v138_3 k k1 k2, fun q q1 q2 => v138_4 q q1 (by omega)⟩⟩⟩ dX11_law_204
                      refine x_aload_n hx hb hl 0 rfl dX11_law_146 rfl ?_
                      refine x_get (j := 25) (v := .ref (h0 + 284)) hx hb hown hT hE hW cls_X11 (Or.inl (by decide)) (so_268 h0 g _) (by decide) rfl wq1210 dX11_law_147 ?_
                      refine x_iload_n hx hb hl 1 rfl dX11_law_150 rfl ?_
                      refine x_aload_n hx hb hl 0 rfl dX11_law_151 rfl ?_
                      refine x_get (j := 20) (v := .ref (h0 + 279)) hx hb hown hT hE hW cls_X11 (Or.inl (by decide)) (so_268 h0 g _) (by decide) rfl wq1205 dX11_law_152 ?_
                      refine x_iload_n hx hb hl 1 rfl dX11_law_155 rfl ?_
                      refine x_iald hx hb hE hW (Or.inl (by decide)) (sa_279 h0 g _) (by omega) (by decide) dX11_law_156 ?_
                      refine x_rd hW (fun x85 ex85 rx85 => ?_)
                      have R156 : x85 = K7 i3_138 := by rw [ex85, v138_1.2.1]
                      refine x_iast hx hb hE hW (by decide) (fun σ => sa_284 h0 g σ) (by omega) (by decide) rx85 dX11_law_157 (fun H locs s86 es86 hW => ?_)
                      have q87 : IMn s86 := by rw [es86]; exact IMn_o (by unfold suIMn; decide) q138_0
                      have q88 : IMo s86 := by rw [es86]; exact IMo_o (by unfold suIMo; decide) q138_1
                      have q89 : IR s86 := by rw [es86]; exact IR_o (by unfold suIR; decide) q138_2
                      have q90 : s86 268 8 = 0 := (show s86 268 8 = s_138 268 8 from by rw [es86, xU_k _ _ _ (by decide)]).trans q138_3
                      have q91 : s86 268 58 = s0 268 58 := (show s86 268 58 = s_138 268 58 from by rw [es86, xU_k _ _ _ (by decide)]).trans q138_4
                      have q92 : s86 268 17 = x67 := (show s86 268 17 = s_138 268 17 from by rw [es86, xU_k _ _ _ (by decide)]).trans q138_5
                      have q93 : s86 268 10 = n := (show s86 268 10 = s_138 268 10 from by rw [es86, xU_k _ _ _ (by decide)]).trans q138_6
                      have q94 : s86 268 16 = x67 := (show s86 268 16 = s_138 268 16 from by rw [es86, xU_k _ _ _ (by decide)]).trans q138_7
                      have q95 : s86 268 14 = x79 := (show s86 268 14 = s_138 268 14 from by rw [es86, xU_k _ _ _ (by decide)]).trans q138_8
                      have hF96 := hF_138.put es86 (by omega)
                      have E157 := es86
                      refine x_aload_n hx hb hl 0 rfl dX11_law_158 rfl ?_
                      refine x_get (j := 26) (v := .ref (h0 + 285)) hx hb hown hT hE hW cls_X11 (Or.inl (by decide)) (so_268 h0 g _) (by decide) rfl wq1211 dX11_law_159 ?_
                      refine x_iload_n hx hb hl 1 rfl dX11_law_162 rfl ?_
                      refine x_aload_n hx hb hl 0 rfl dX11_law_163 rfl ?_
                      refine x_get (j := 21) (v := .ref (h0 + 280)) hx hb hown hT hE hW cls_X11 (Or.inl (by decide)) (so_268 h0 g _) (by decide) rfl wq1206 dX11_law_164 ?_
                      refine x_iload_n hx hb hl 1 rfl dX11_law_167 rfl ?_
                      refine x_iald hx hb hE hW (Or.inl (by decide)) (sa_280 h0 g _) (by omega) (by decide) dX11_law_168 ?_
                      refine x_rd hW (fun x97 ex97 rx97 => ?_)
                      have R168 : x97 = K8 i3_138 := by rw [ex97, E157, xU_k _ _ _ (by decide), v138_1.2.2.1]
                      refine x_iast hx hb hE hW (by decide) (fun σ => sa_285 h0 g σ) (by omega) (by decide) rx97 dX11_law_169 (fun H locs s98 es98 hW => ?_)
                      have q99 : IMn s98 := by rw [es98]; exact IMn_o (by unfold suIMn; decide) q87
                      have q100 : IMo s98 := by rw [es98]; exact IMo_o (by unfold suIMo; decide) q88
                      have q101 : IR s98 := by rw [es98]; exact IR_o (by unfold suIR; decide) q89
                      have q102 : s98 268 8 = 0 := (show s98 268 8 = s86 268 8 from by rw [es98, xU_k _ _ _ (by decide)]).trans q90
                      have q103 : s98 268 58 = s0 268 58 := (show s98 268 58 = s86 268 58 from by rw [es98, xU_k _ _ _ (by decide)]).trans q91
                      have q104 : s98 268 17 = x67 := (show s98 268 17 = s86 268 17 from by rw [es98, xU_k _ _ _ (by decide)]).trans q92
                      have q105 : s98 268 10 = n := (show s98 268 10 = s86 268 10 from by rw [es98, xU_k _ _ _ (by decide)]).trans q93
                      have q106 : s98 268 16 = x67 := (show s98 268 16 = s86 268 16 from by rw [es98, xU_k _ _ _ (by decide)]).trans q94
                      have q107 : s98 268 14 = x79 := (show s98 268 14 = s86 268 14 from by rw [es98, xU_k _ _ _ (by decide)]).trans q95
                      have hF108 := hF96.put es98 (by omega)
                      have E169 := es98
                      refine x_aload_n hx hb hl 0 rfl dX11_law_170 rfl ?_
                      refine x_get (j := 27) (v := .ref (h0 + 286)) hx hb hown hT hE hW cls_X11 (Or.inl (by decide)) (so_268 h0 g _) (by decide) rfl wq1212 dX11_law_171 ?_
                      refine x_iload_n hx hb hl 1 rfl dX11_law_174 rfl ?_
                      refine x_aload_n hx hb hl 0 rfl dX11_law_175 rfl ?_
                      refine x_get (j := 22) (v := .ref (h0 + 281)) hx hb hown hT hE hW cls_X11 (Or.inl (by decide)) (so_268 h0 g _) (by decide) rfl wq1207 dX11_law_176 ?_
                      refine x_iload_n hx hb hl 1 rfl dX11_law_179 rfl ?_
                      refine x_iald hx hb hE hW (Or.inl (by decide)) (sa_281 h0 g _) (by omega) (by decide) dX11_law_180 ?_
                      refine x_rd hW (fun x109 ex109 rx109 => ?_)
                      have R180 : x109 = K9 i3_138 := by rw [ex109, E169, xU_k _ _ _ (by decide), E157, xU_k _ _ _ (by decide), v138_1.2.2.2.1]
                      refine x_iast hx hb hE hW (by decide) (fun σ => sa_286 h0 g σ) (by omega) (by decide) rx109 dX11_law_181 (fun H locs s110 es110 hW => ?_)
                      have q111 : IMn s110 := by rw [es110]; exact IMn_o (by unfold suIMn; decide) q99
                      have q112 : IMo s110 := by rw [es110]; exact IMo_o (by unfold suIMo; decide) q100
                      have q113 : IR s110 := by rw [es110]; exact IR_o (by unfold suIR; decide) q101
                      have q114 : s110 268 8 = 0 := (show s110 268 8 = s98 268 8 from by rw [es110, xU_k _ _ _ (by decide)]).trans q102
                      have q115 : s110 268 58 = s0 268 58 := (show s110 268 58 = s98 268 58 from by rw [es110, xU_k _ _ _ (by decide)]).trans q103
                      have q116 : s110 268 17 = x67 := (show s110 268 17 = s98 268 17 from by rw [es110, xU_k _ _ _ (by decide)]).trans q104
                      have q117 : s110 268 10 = n := (show s110 268 10 = s98 268 10 from by rw [es110, xU_k _ _ _ (by decide)]).trans q105
                      have q118 : s110 268 16 = x67 := (show s110 268 16 = s98 268 16 from by rw [es110, xU_k _ _ _ (by decide)]).trans q106
                      have q119 : s110 268 14 = x79 := (show s110 268 14 = s98 268 14 from by rw [es110, xU_k _ _ _ (by decide)]).trans q107
                      have hF120 := hF108.put es110 (by omega)
                      have E181 := es110
                      refine x_aload_n hx hb hl 0 rfl dX11_law_182 rfl ?_
                      refine x_get (j := 28) (v := .ref (h0 + 287)) hx hb hown hT hE hW cls_X11 (Or.inl (by decide)) (so_268 h0 g _) (by decide) rfl wq1213 dX11_law_183 ?_
                      refine x_iload_n hx hb hl 1 rfl dX11_law_186 rfl ?_
                      refine x_aload_n hx hb hl 0 rfl dX11_law_187 rfl ?_
                      refine x_get (j := 23) (v := .ref (h0 + 282)) hx hb hown hT hE hW cls_X11 (Or.inl (by decide)) (so_268 h0 g _) (by decide) rfl wq1208 dX11_law_188 ?_
                      refine x_iload_n hx hb hl 1 rfl dX11_law_191 rfl ?_
                      refine x_iald hx hb hE hW (Or.inl (by decide)) (sa_282 h0 g _) (by omega) (by decide) dX11_law_192 ?_
                      refine x_rd hW (fun x121 ex121 rx121 => ?_)
                      have R192 : x121 = K0 i3_138 := by rw [ex121, E181, xU_k _ _ _ (by decide), E169, xU_k _ _ _ (by decide), E157, xU_k _ _ _ (by decide), v138_1.2.2.2.2]
                      refine x_iast hx hb hE hW (by decide) (fun σ => sa_287 h0 g σ) (by omega) (by decide) rx121 dX11_law_193 (fun H locs s122 es122 hW => ?_)
                      have q123 : IMn s122 := by rw [es122]; exact IMn_o (by unfold suIMn; decide) q111
                      have q124 : IMo s122 := by rw [es122]; exact IMo_o (by unfold suIMo; decide) q112
                      have q125 : IR s122 := by rw [es122]; exact IR_o (by unfold suIR; decide) q113
                      have q126 : s122 268 8 = 0 := (show s122 268 8 = s110 268 8 from by rw [es122, xU_k _ _ _ (by decide)]).trans q114
                      have q127 : s122 268 58 = s0 268 58 := (show s122 268 58 = s110 268 58 from by rw [es122, xU_k _ _ _ (by decide)]).trans q115
                      have q128 : s122 268 17 = x67 := (show s122 268 17 = s110 268 17 from by rw [es122, xU_k _ _ _ (by decide)]).trans q116
                      have q129 : s122 268 10 = n := (show s122 268 10 = s110 268 10 from by rw [es122, xU_k _ _ _ (by decide)]).trans q117
                      have q130 : s122 268 16 = x67 := (show s122 268 16 = s110 268 16 from by rw [es122, xU_k _ _ _ (by decide)]).trans q118
                      have q131 : s122 268 14 = x79 := (show s122 268 14 = s110 268 14 from by rw [es122, xU_k _ _ _ (by decide)]).trans q119
                      have hF132 := hF120.put es122 (by omega)
                      have E193 := es122
                      have K193 : ∀ k : Nat, k ≠ 284 → k ≠ 285 → k ≠ 286 → k ≠ 287 → s122 k = s_138 k := fun k a b c d => by rw [E193, xU_k _ _ _ d, E181, xU_k _ _ _ c, E169, xU_k _ _ _ b, E157, xU_k _ _ _ a]
                      have N284 : s122 284 = xud (s_138 284) i3_138 (K7 i3_138) := by rw [E193, xU_k _ _ _ (by decide), E181, xU_k _ _ _ (by decide), E169, xU_k _ _ _ (by decide), E157, xU_xud, R156]
                      have N285 : s122 285 = xud (s_138 285) i3_138 (K8 i3_138) := by rw [E193, xU_k _ _ _ (by decide), E181, xU_k _ _ _ (by decide), E169, xU_xud, E157, xU_k _ _ _ (by decide), R168]
                      have N286 : s122 286 = xud (s_138 286) i3_138 (K9 i3_138) := by rw [E193, xU_k _ _ _ (by decide), E181, xU_xud, E169, xU_k _ _ _ (by decide), E157, xU_k _ _ _ (by decide), R180]
                      have N287 : s122 287 = xud (s_138 287) i3_138 (K0 i3_138) := by rw [E193, xU_xud, E181, xU_k _ _ _ (by decide), E169, xU_k _ _ _ (by decide), E157, xU_k _ _ _ (by decide), R192]
                      refine x_iinc (lv' := [(3, .int (xJ (i3_138 + 1))), (0, .ref (h0 + 268))]) hx hb hl 1 rfl dX11_law_194 (by decide) rfl (fun ls hl => ?_)
                      refine lv_goto (tgt := 138) hx hb dX11_law_197 (by decide) ?_
                      exact ih138 (i3_138 + 1) s122 H locs ls (by omega) hF132 q123 q124 q125 q126 q127 q128 q129 q130 q131 (by omega) (by rw [K193 277 (by decide) (by decide) (by decide) (by decide), K193 279 (by decide) (by decide) (by decide) (by decide), K193 280 (by decide) (by decide) (by decide) (by decide), K193 281 (by decide) (by decide) (by decide) (by decide), K193 282 (by decide) (by decide) (by decide) (by decide)]; exact v138_1) (by rw [K193 268 (by decide) (by decide) (by decide) (by decide)]; exact v138_2) (by rw [K193 283 (by decide) (by decide) (by decide) (by decide)]; exact v138_3) (fun q q1 q2 => by
                  rw [N284, N285, N286, N287]
                  by_cases h : q = i3_138
                  · subst h; rw [xud_s, xud_s, xud_s, xud_s]; exact ⟨rfl, rfl, rfl, rfl⟩
                  · rw [xud_o _ _ h, xud_o _ _ h, xud_o _ _ h, xud_o _ _ h]; exact v138_4 q q1 (by omega)) (by have hm := hm_138 (); omega) hW (lv_sub hl [1, 0] rfl)
                  exact L138 ((17 - 0 : Int).toNat + 1) 0 s_110 H locs ls (by decide) hF_110 q110_0 q110_1 q110_2 q110_3 q110_4 q110_5 q110_6 q110_7 q80 (by omega) (v110_1) (v110_2) (fun q q1 q2 => v110_3 q q1 (by omega)) (fun q q1 q2 => absurd q2 (by omega)) (Nat.lt_succ_self _) hW (lv_sub hl [1, 0] rfl)
                refine x_aload_n hx hb hl 0 rfl dX11_law_118 rfl ?_
                refine x_get (j := 24) (v := .ref (h0 + 283)) hx hb hown hT hE hW cls_X11 (Or.inl (by decide)) (so_268 h0 g _) (by decide) rfl wq1209 dX11_law_119 ?_
                refine x_iload_n hx hb hl 1 rfl dX11_law_122 rfl ?_
                refine x_aload_n hx hb hl 0 rfl dX11_law_123 rfl ?_
                refine x_get (j := 18) (v := .ref (h0 + 277)) hx hb hown hT hE hW cls_X11 (Or.inl (by decide)) (so_268 h0 g _) (by decide) rfl wq1203 dX11_law_124 ?_
                refine x_iload_n hx hb hl 1 rfl dX11_law_127 rfl ?_
                refine x_iald hx hb hE hW (Or.inl (by decide)) (sa_277 h0 g _) (by omega) (by decide) dX11_law_128 ?_
                refine x_rd hW (fun x133 ex133 rx133 => ?_)
                have R128 : x133 = K6 i3_110 := by rw [ex133, v110_1.1]
                refine x_iast hx hb hE hW (by decide) (fun σ => sa_283 h0 g σ) (by omega) (by decide) rx133 dX11_law_129 (fun H locs s134 es134 hW => ?_)
                have q135 : IMn s134 := by rw [es134]; exact IMn_o (by unfold suIMn; decide) q110_0
                have q136 : IMo s134 := by rw [es134]; exact IMo_o (by unfold suIMo; decide) q110_1
                have q137 : IR s134 := by rw [es134]; exact IR_o (by unfold suIR; decide) q110_2
                have q138 : s134 268 8 = 0 := (show s134 268 8 = s_110 268 8 from by rw [es134, xU_k _ _ _ (by decide)]).trans q110_3
                have q139 : s134 268 58 = s0 268 58 := (show s134 268 58 = s_110 268 58 from by rw [es134, xU_k _ _ _ (by decide)]).trans q110_4
                have q140 : s134 268 17 = x67 := (show s134 268 17 = s_110 268 17 from by rw [es134, xU_k _ _ _ (by decide)]).trans q110_5
                have q141 : s134 268 10 = n := (show s134 268 10 = s_110 268 10 from by rw [es134, xU_k _ _ _ (by decide)]).trans q110_6
                have q142 : s134 268 16 = x67 := (show s134 268 16 = s_110 268 16 from by rw [es134, xU_k _ _ _ (by decide)]).trans q110_7
                have q143 : s134 268 14 = x79 := (show s134 268 14 = s_110 268 14 from by rw [es134, xU_k _ _ _ (by decide)]).trans q80
                have hF144 := hF_110.put es134 (by omega)
                have E129 := es134
                refine x_iinc (lv' := [(3, .int (xJ (i3_110 + 1))), (0, .ref (h0 + 268))]) hx hb hl 1 rfl dX11_law_130 (by decide) rfl (fun ls hl => ?_)
                refine lv_goto (tgt := 110) hx hb dX11_law_133 (by decide) ?_
                exact ih110 (i3_110 + 1) s134 H locs ls (by omega) hF144 q135 q136 q137 q138 q139 q140 q141 q142 (by omega) (by rw [E129, xU_k _ _ _ (by decide), xU_k _ _ _ (by decide), xU_k _ _ _ (by decide), xU_k _ _ _ (by decide), xU_k _ _ _ (by decide)]; exact v110_1) (by rw [E129, xU_k _ _ _ (by decide)]; exact v110_2) (fun q q1 q2 => (Classical.em (q < i3_110)).elim (fun h => by rw [E129, xU_j _ _ (by omega)]; exact v110_3 q q1 h) (fun h => by rw [show q = i3_110 from by omega, E129, xU_s]; exact R128)) (by have hm := hm_110 (); omega) hW (lv_sub hl [1, 0] rfl)
            exact L110 ((241 - 0 : Int).toNat + 1) 0 s69 H locs ls (by decide) hF78 q70 q71 q72 q73 q74 q75 q76 q77 (by omega) (Q105.1) (Q105.2) (fun q q1 q2 => absurd q2 (by omega)) (Nat.lt_succ_self _) hW (lv_sub hl [1, 0] rfl)
          refine x_aload_n hx hb hl 0 rfl dX11_law_95 rfl ?_
          refine x_get (j := 11) (v := .int (xJ (s56 268 11))) hx hb hown hT hE hW cls_X11 (Or.inl (by decide)) (so_268 h0 g _) (by decide) rfl wq1196 dX11_law_96 ?_
          refine x_rd hW (fun x145 ex145 rx145 => ?_)
          rw [eQ]
          exact x_iret hx hb hr hlk hW rx145 ⟨hF65, ⟨q57, q58, q59, q62, trivial⟩, by
    rw [← eZM]
    have z := v86_0.resolve_right (fun q => by omega)
    exact Or.inr ⟨hCN, by omega, Or.inl ⟨z.2.1, by omega, ⟨Q88.1, Q88.2.1, Q88.2.2.1, Q88.2.2.2.1, Q88.2.2.2.2, by omega⟩⟩⟩⟩ dX11_law_99
        refine x_if_eq (tgt := 86) hx hb ri2_46 dX11_law_47 (by decide) (fun c146 => ?_) (fun c146 => ?_)
        · skip
          exact J86 ls (v46_0.elim Or.inl (fun q => Or.inr ⟨q.1, q.2.fin (by omega)⟩))  (lv_sub hl [0, 1] rfl)
        refine x_aload_n hx hb hl 0 rfl dX11_law_50 rfl ?_
        refine x_get (j := 9) (v := .int (xJ (s_46 268 9))) hx hb hown hT hE hW cls_X11 (Or.inl (by decide)) (so_268 h0 g _) (by decide) rfl wq1194 dX11_law_51 ?_
        refine x_rd hW (fun x147 ex147 rx147 => ?_)
        have bx147 : 0 ≤ x147 ∧ x147 ≤ s_46 268 10 ∧ s_46 268 10 ≤ 240 := by rw [ex147]; exact q46_3
        have q148 : s_46 268 9 = x147 := ex147.symm
        have i246 : i2_46 = 1 := (v46_0.resolve_left (fun q => by omega)).1
        have hm_46 := fun (_ : Unit) => (show (242 - s_46 268 9).toNat < fu + 1 from by have hm := hm_46 (); rw [i246, Int.one_mul] at hm; exact hm)
        refine x_aload_n hx hb hl 0 rfl dX11_law_54 rfl ?_
        refine x_get (j := 10) (v := .int (xJ (s_46 268 10))) hx hb hown hT hE hW cls_X11 (Or.inl (by decide)) (so_268 h0 g _) (by decide) rfl wq1195 dX11_law_55 ?_
        refine x_rd hW (fun x149 ex149 rx149 => ?_)
        have fx149 : x149 = n := ex149.trans q46_7
        refine x_icmp_ge (tgt := 86) hx hb rx147 rx149 dX11_law_58 (by decide) (fun c150 => ?_) (fun c150 => ?_)
        · skip
          exact J86 ls (v46_0.elim Or.inl (fun q => Or.inr ⟨q.1, q.2.fin (by omega)⟩))  (lv_sub hl [0, 1] rfl)
        refine x_aload_n hx hb hl 0 rfl dX11_law_61 rfl ?_
        refine x_bipush hx hb dX11_law_62 (by decide) ?_
        refine x_goi (x_runV (As := [.int (xJ 59)]) hx hb hml hown hT hE hW hl.1 (Or.inl (by decide)) (so_268 h0 g _) rfl cf_X11_takes wq1405 wq108 wq1403 (c_X11_takesK l D g T h0 s_46 hW.2.1 59 (by decide) (by omega) q46_0 q46_1 q46_2 q46_3) ⟨rfl, rfl, ⟨by decide, by decide⟩, ⟨by decide, by decide⟩⟩ rfl rfl (Nat.le_of_ble_eq_true rfl) dX11_law_64) hW (fun x151 s152 H locs rx151 hp153 hW => ?_)
        obtain ⟨fs152, hp153⟩ := hp153
        have hF154 := hF_46.call fs152 (fun k h => by omega)
        have ghp153 := hp153.2
        have H64 := ghp153
        have C64 : zhC s_46 = zch (xm8 (s0 276)) n (s_46 268 9) := by rw [zhC_ch, hF_46 276 (by omega), show s_46 268 10 = n from by omega]
        rw [C64] at H64
        have Q64 : s152 283 = s0 283 ∧ s152 284 = s0 284 ∧ s152 285 = s0 285 ∧ s152 286 = s0 286 ∧ s152 287 = s0 287 := ⟨(fs152 283 (by omega)).trans v46_1.1, (fs152 284 (by omega)).trans v46_1.2.1, (fs152 285 (by omega)).trans v46_1.2.2.1, (fs152 286 (by omega)).trans v46_1.2.2.2.1, (fs152 287 (by omega)).trans v46_1.2.2.2.2⟩
        have W64 : x151 ≠ 0 → zLX (xm8 (s0 276)) n ZM true (s152 268 16) (s152 268 9) (s152 268 14) (s152 277) (s152 279) (s152 280) (s152 281) (s152 282) := fun hv => by
          have z := (v46_0.resolve_left (fun q => by omega)).2
          rw [show s152 268 16 = s_46 268 16 from by omega, show s152 268 14 = s_46 268 14 from by omega, fs152 277 (by omega), fs152 279 (by omega), fs152 280 (by omega), fs152 281 (by omega), fs152 282 (by omega)]
          exact z.semi (by omega) (by omega)
        have W67 : x151 = 0 → ZM.1 ≠ 0 ∧ s152 268 11 = ZM.1 := fun hv => by
          have z := (v46_0.resolve_left (fun q => by omega)).2
          have y := z.bad (by omega) (by omega)
          have b := z.b
          omega
        have B64 : x151 ≠ 0 → s_46 268 9 ≤ s152 268 9 := fun h => by omega
        clear H64
        clear ghp153
        replace hp153 := And.intro hp153.1 trivial
        refine x_if_eq (tgt := 81) hx hb rx151 dX11_law_67 (by decide) (fun c155 => ?_) (fun c155 => ?_)
        · skip
          refine x_iconst hx hb dX11_law_81 ?_
          refine lv_istore_n (lv' := [(2, .int (xJ 0)), (0, .ref (h0 + 268))]) hx hb dX11_law_82 rfl hl (by decide) rfl (fun ls hl => ?_)
          refine lv_goto (tgt := 46) hx hb dX11_law_83 (by decide) ?_
          exact ih46 0 s152 H locs ls (by decide) hF154 hp153.1.1 hp153.1.2.1 hp153.1.2.2.1 hp153.1.2.2.2.1 (hp153.1.2.2.2.2.1.trans q46_4) (hp153.1.2.2.2.2.2.1.trans q46_5) (hp153.1.2.2.2.2.2.2.1.trans q46_6) (hp153.1.2.2.2.2.2.2.2.1.trans q46_7) (by first | exact Or.inl ⟨rfl, W67 (by omega)⟩ | exact Or.inl ⟨rfl, ((H71 ()).resolve_right (fun q => by omega)).2⟩ | exact Or.inr ⟨rfl, ((H71 ()).resolve_left (fun q => by omega)).2.1⟩) (by first | exact Q71 | exact Q64) (by have hm := hm_46 (); omega) hW (lv_sub hl [1, 0] rfl)
        refine x_aload_n hx hb hl 0 rfl dX11_law_70 rfl ?_
        refine x_goi (x_runV (As := []) hx hb hml hown hT hE hW hl.1 (Or.inl (by decide)) (so_268 h0 g _) rfl cf_X11_readsClause wq1465 wq115 wq1463 (c_X11_readsClauseK l D g T h0 s152 hW.2.1 (xm8 (s0 276)) n ZM (⟨by rw [hF154 276 (by omega)], by omega⟩) (W64 (by omega)) hp153.1.1 hp153.1.2.1 hp153.1.2.2.1 hp153.1.2.2.2.1) ⟨rfl, rfl, ⟨by decide, by decide⟩, ⟨by decide, by decide⟩⟩ rfl rfl (Nat.le_of_ble_eq_true rfl) dX11_law_71) hW (fun x156 s157 H locs rx156 hp158 hW => ?_)
        obtain ⟨fs157, hp158⟩ := hp158
        have hF159 := hF154.call fs157 (fun k h => by omega)
        have ghp158 := hp158.2
        have H71 := fun (_ : Unit) => ghp158
        have B71 : x156 ≠ 0 → s_46 268 9 + 1 ≤ s157 268 9 := fun h => by
          have y := ((H71 ()).resolve_left (fun q => by omega)).2.2
          have z := B64 (by omega)
          omega
        clear ghp158
        replace hp158 := And.intro hp158.1 trivial
        have Q71 : s157 283 = s0 283 ∧ s157 284 = s0 284 ∧ s157 285 = s0 285 ∧ s157 286 = s0 286 ∧ s157 287 = s0 287 := ⟨(fs157 283 (by omega)).trans Q64.1, (fs157 284 (by omega)).trans Q64.2.1, (fs157 285 (by omega)).trans Q64.2.2.1, (fs157 286 (by omega)).trans Q64.2.2.2.1, (fs157 287 (by omega)).trans Q64.2.2.2.2⟩
        refine x_if_eq (tgt := 81) hx hb rx156 dX11_law_74 (by decide) (fun c160 => ?_) (fun c160 => ?_)
        · skip
          refine x_iconst hx hb dX11_law_81 ?_
          refine lv_istore_n (lv' := [(2, .int (xJ 0)), (0, .ref (h0 + 268))]) hx hb dX11_law_82 rfl hl (by decide) rfl (fun ls hl => ?_)
          refine lv_goto (tgt := 46) hx hb dX11_law_83 (by decide) ?_
          exact ih46 0 s157 H locs ls (by decide) hF159 hp158.1.1 hp158.1.2.1 hp158.1.2.2.1 hp158.1.2.2.2.1 (hp158.1.2.2.2.2.1.trans (hp153.1.2.2.2.2.1.trans q46_4)) (hp158.1.2.2.2.2.2.1.trans (hp153.1.2.2.2.2.2.1.trans q46_5)) (hp158.1.2.2.2.2.2.2.1.trans (hp153.1.2.2.2.2.2.2.1.trans q46_6)) (hp158.1.2.2.2.2.2.2.2.1.trans (hp153.1.2.2.2.2.2.2.2.1.trans q46_7)) (by first | exact Or.inl ⟨rfl, W67 (by omega)⟩ | exact Or.inl ⟨rfl, ((H71 ()).resolve_right (fun q => by omega)).2⟩ | exact Or.inr ⟨rfl, ((H71 ()).resolve_left (fun q => by omega)).2.1⟩) (by first | exact Q71 | exact Q64) (by have hm := hm_46 (); omega) hW (lv_sub hl [1, 0] rfl)
        refine x_iconst hx hb dX11_law_77 ?_
        refine lv_goto (tgt := 82) hx hb dX11_law_78 (by decide) ?_
        refine lv_istore_n (lv' := [(2, .int (xJ 1)), (0, .ref (h0 + 268))]) hx hb dX11_law_82 rfl hl (by decide) rfl (fun ls hl => ?_)
        refine lv_goto (tgt := 46) hx hb dX11_law_83 (by decide) ?_
        exact ih46 1 s157 H locs ls (by decide) hF159 hp158.1.1 hp158.1.2.1 hp158.1.2.2.1 hp158.1.2.2.2.1 (hp158.1.2.2.2.2.1.trans (hp153.1.2.2.2.2.1.trans q46_4)) (hp158.1.2.2.2.2.2.1.trans (hp153.1.2.2.2.2.2.1.trans q46_5)) (hp158.1.2.2.2.2.2.2.1.trans (hp153.1.2.2.2.2.2.2.1.trans q46_6)) (hp158.1.2.2.2.2.2.2.2.1.trans (hp153.1.2.2.2.2.2.2.2.1.trans q46_7)) (by first | exact Or.inl ⟨rfl, W67 (by omega)⟩ | exact Or.inl ⟨rfl, ((H71 ()).resolve_right (fun q => by omega)).2⟩ | exact Or.inr ⟨rfl, ((H71 ()).resolve_left (fun q => by omega)).2.1⟩) (by first | exact Q71 | exact Q64) (by have hm := hm_46 (); omega) hW (lv_sub hl [1, 0] rfl)
    exact L46 ((x52 * (242 - s53 268 9) : Int).toNat + 1) x52 s53 H locs ls rx52 hF55 hp54.1.1 hp54.1.2.1 hp54.1.2.2.1 hp54.1.2.2.2.1 (hp54.1.2.2.2.2.1.trans q44) (hp54.1.2.2.2.2.2.1.trans q43) (hp54.1.2.2.2.2.2.2.1.trans q45) (hp54.1.2.2.2.2.2.2.2.1.trans q47) ((H42 ()).elim (fun q => Or.inl q) (fun q => Or.inr ⟨q.1, q.2.1⟩)) (Q42) (Nat.lt_succ_self _) hW (lv_sub hl [1, 0] rfl)
  refine x_iconst hx hb dX11_law_19 ?_
  rw [eQ]
  exact x_iret hx hb hr hlk hW (by decide) ⟨hF, ⟨p0, p1, p2, k268_58, trivial⟩, Or.inl ⟨by omega, by omega, by omega, ⟨rfl, rfl, rfl, rfl, rfl, rfl⟩⟩⟩ dX11_law_20
