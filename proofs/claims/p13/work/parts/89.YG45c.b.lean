def zR2 (a b : Prop) : Prop := a ∨ b
set_option maxHeartbeats 4000000 in
set_option maxRecDepth 100000 in
theorem c_X11_lawK (l : Launch) (D : va_G) (g : xG) (T : Nat × Nat × Nat) (h0 : Nat) (s0 : xS) (hσ : xRR s0) (n : Int) (rn : xR n) (p0 : IMn s0) (p1 : IMk s0) (p2 : IMo s0) : Met l yX11_law (xws yX11_law cX11_law 4 (some .int)) { frames := 8, cells := 0, slots := 0, locals := 166 } (xP [.ref (h0 + 268), .int (xJ n)] D g T h0 s0) (xQi D g h0 (fun r τ => xFr (fun k => k = 268 ∨ k = 277 ∨ k = 278 ∨ k = 279 ∨ k = 280 ∨ k = 281 ∨ k = 282 ∨ k = 283 ∨ k = 284 ∨ k = 285 ∨ k = 286 ∨ k = 287) s0 τ ∧ (((IMn τ) ∧ (IMk τ) ∧ (IMo τ) ∧ (τ 268 58 = s0 268 58) ∧ (τ 268 48 = s0 268 48) ∧ True) ∧ (((n < 1 ∨ 240 < n ∨ s0 268 8 < n) ∧ τ 268 8 = s0 268 8 ∧ r = -1 ∧ (τ 283 = s0 283 ∧ τ 284 = s0 284 ∧ τ 285 = s0 285 ∧ τ 286 = s0 286 ∧ τ 287 = s0 287 ∧ τ 268 17 = s0 268 17)) ∨ (¬ (n < 1 ∨ 240 < n ∨ s0 268 8 < n) ∧ τ 268 8 = 0 ∧ (((zL0 (xm8 (s0 276)) n (s0 277) (s0 279) (s0 280) (s0 281) (s0 282)).1 ≠ 0 ∧ r = (zL0 (xm8 (s0 276)) n (s0 277) (s0 279) (s0 280) (s0 281) (s0 282)).1 ∧ (τ 283 = s0 283 ∧ τ 284 = s0 284 ∧ τ 285 = s0 285 ∧ τ 286 = s0 286 ∧ τ 287 = s0 287 ∧ τ 268 17 = s0 268 17)) ∨ (∃ M2 c2 C2 L2 A2 B2 T2, (zL0 (xm8 (s0 276)) n (s0 277) (s0 279) (s0 280) (s0 281) (s0 282)) = (0, M2, c2, C2, L2, A2, B2, T2) ∧ r = M2 ∧ τ 268 17 = M2 ∧ (∀ k, 0 ≤ k → k < c2 → τ 283 k = C2 k) ∧ ∀ q, 0 ≤ q → q < M2 → τ 284 q = L2 q ∧ τ 285 q = A2 q ∧ τ 286 q = B2 q ∧ τ 287 q = T2 q))))))) 0 0 (xA h0) := by
  refine x_met hσ (by decide) (Nat.le_of_ble_eq_true rfl) ?_
  intro p e s m args below meth c hx hb hr hml hown hT hlk hnm hE hW ls hl
  have hl : lv_has ls 4 [(0, .ref (h0 + 268)), (1, .int (xJ n))] := hl
  obtain ⟨Q, eQ⟩ : ∃ Q, Q = MQ below (xQi D g h0 (fun r τ => xFr (fun k => k = 268 ∨ k = 277 ∨ k = 278 ∨ k = 279 ∨ k = 280 ∨ k = 281 ∨ k = 282 ∨ k = 283 ∨ k = 284 ∨ k = 285 ∨ k = 286 ∨ k = 287) s0 τ ∧ (((IMn τ) ∧ (IMk τ) ∧ (IMo τ) ∧ (τ 268 58 = s0 268 58) ∧ (τ 268 48 = s0 268 48) ∧ True) ∧ (((n < 1 ∨ 240 < n ∨ s0 268 8 < n) ∧ τ 268 8 = s0 268 8 ∧ r = -1 ∧ (τ 283 = s0 283 ∧ τ 284 = s0 284 ∧ τ 285 = s0 285 ∧ τ 286 = s0 286 ∧ τ 287 = s0 287 ∧ τ 268 17 = s0 268 17)) ∨ (¬ (n < 1 ∨ 240 < n ∨ s0 268 8 < n) ∧ τ 268 8 = 0 ∧ (((zL0 (xm8 (s0 276)) n (s0 277) (s0 279) (s0 280) (s0 281) (s0 282)).1 ≠ 0 ∧ r = (zL0 (xm8 (s0 276)) n (s0 277) (s0 279) (s0 280) (s0 281) (s0 282)).1 ∧ (τ 283 = s0 283 ∧ τ 284 = s0 284 ∧ τ 285 = s0 285 ∧ τ 286 = s0 286 ∧ τ 287 = s0 287 ∧ τ 268 17 = s0 268 17)) ∨ (∃ M2 c2 C2 L2 A2 B2 T2, (zL0 (xm8 (s0 276)) n (s0 277) (s0 279) (s0 280) (s0 281) (s0 282)) = (0, M2, c2, C2, L2, A2, B2, T2) ∧ r = M2 ∧ τ 268 17 = M2 ∧ (∀ k, 0 ≤ k → k < c2 → τ 283 k = C2 k) ∧ ∀ q, 0 ≤ q → q < M2 → τ 284 q = L2 q ∧ τ 285 q = A2 q ∧ τ 286 q = B2 q ∧ τ 287 q = T2 q))))))) args s 0 0 (xA h0) := ⟨_, rfl⟩
  rw [← eQ]
  generalize hHe : ([] : List Loc) = locs at hW ⊢
  obtain ⟨H, eH⟩ : ∃ H, H = s.heap := ⟨_, rfl⟩
  rw [← eH] at hW ⊢
  have hF : xFr (fun k => k = 268 ∨ k = 277 ∨ k = 278 ∨ k = 279 ∨ k = 280 ∨ k = 281 ∨ k = 282 ∨ k = 283 ∨ k = 284 ∨ k = 285 ∨ k = 286 ∨ k = 287) s0 s0 := xFr.rf
  have k268_58 : s0 268 58 = s0 268 58 := rfl
  have k268_48 : s0 268 48 = s0 268 48 := rfl
  have k268_8 : s0 268 8 = s0 268 8 := rfl
  have k268_17 : s0 268 17 = s0 268 17 := rfl
  obtain ⟨ZM, eZM⟩ : ∃ Z, Z = (zL0 (xm8 (s0 276)) n (s0 277) (s0 279) (s0 280) (s0 281) (s0 282)) := ⟨_, rfl⟩
  refine x_iload_n hx hb hl 1 rfl dX11_law_0 rfl ?_
  refine x_iconst hx hb dX11_law_1 ?_
  refine x_sipush hx hb dX11_law_2 (by decide) ?_
  refine x_goi (x_runS (As := [.int (xJ n), .int (xJ 1), .int (xJ 240)]) hx hb hml hown hT hE hW hl.1 cf_X11_in wq1383 wq1382 (c_X11_in l D g T h0 s0 hW.2.1 n rn 1 (by decide) 240 (by decide)) ⟨rfl, rfl, ⟨by decide, by decide⟩, ⟨by decide, by decide⟩⟩ rfl rfl (Nat.le_of_ble_eq_true rfl) dX11_law_5) hW (fun x1 s2 H locs rx1 hp3 hW => ?_)
  obtain ⟨es2, hp3⟩ := hp3
  subst es2
  have ghp3 := hp3
  refine x_if_eq (tgt := 19) hx hb rx1 dX11_law_8 (by decide) (fun c4 => ?_) (fun c4 => ?_)
  · skip
    refine x_iconst hx hb dX11_law_19 ?_
    rw [eQ]
    exact x_iret hx hb hr hlk hW (by decide) ⟨hF, ⟨p0, p1, p2, k268_58, k268_48, trivial⟩, Or.inl ⟨by omega, by omega, by omega, ⟨rfl, rfl, rfl, rfl, rfl, rfl⟩⟩⟩ dX11_law_20
  refine x_iload_n hx hb hl 1 rfl dX11_law_11 rfl ?_
  have n5 : 1 ≤ n ∧ n ≤ 240 := by omega
  clear ghp3 hp3
  refine x_aload_n hx hb hl 0 rfl dX11_law_12 rfl ?_
  refine x_get (j := 8) (v := .int (xJ (s0 268 8))) hx hb hown hT hE hW cls_X11 (Or.inl (by decide)) (so_268 h0 g _) (by decide) rfl wq1193 dX11_law_13 ?_
  refine x_rd hW (fun x5 ex5 rx5 => ?_)
  have bx5 : 0 ≤ x5 ∧ x5 ≤ 260 := by rw [ex5]; exact IMn.t p0
  have fx5 : x5 = s0 268 8 := ex5.trans k268_8
  refine x_icmp_le (tgt := 21) hx hb rn rx5 dX11_law_16 (by decide) (fun c6 => ?_) (fun c6 => ?_)
  · skip
    refine x_aload_n hx hb hl 0 rfl dX11_law_21 rfl ?_
    refine x_iconst hx hb dX11_law_22 ?_
    refine x_put (j := 9) hx hb hown hT hE hW cls_X11 (by decide) (fun σ => so_268 h0 g σ) (by decide) (st_X11_9 h0 s0 268 0) (ln_X11_9 h0 _ _) wq1194 rfl rfl rfl (by decide) dX11_law_23 (fun H locs s7 es7 hW => ?_)
    have q8 : IMn s7 := by rw [es7]; exact IMn_268 p0 (by omega)
    have q9 : IMk s7 := by rw [es7]; exact IMk_268 p1 (by omega)
    have q10 : IMo s7 := by rw [es7]; exact IMo_o (by unfold suIMo; first | decide | omega) p2
    have q11 : s7 268 58 = s0 268 58 := (show s7 268 58 = s0 268 58 from by rw [es7, xU_j _ _ (by decide)]).trans k268_58
    have q12 : s7 268 48 = s0 268 48 := (show s7 268 48 = s0 268 48 from by rw [es7, xU_j _ _ (by decide)]).trans k268_48
    have q13 : s7 268 8 = s0 268 8 := (show s7 268 8 = s0 268 8 from by rw [es7, xU_j _ _ (by decide)]).trans k268_8
    have q14 : s7 268 17 = s0 268 17 := (show s7 268 17 = s0 268 17 from by rw [es7, xU_j _ _ (by decide)]).trans k268_17
    have q15 : s7 268 9 = 0 := by rw [es7, xU_s]
    have hF16 := hF.put es7 (by omega)
    have E23 := es7
    have hCN : ¬ (n < 1 ∨ 240 < n ∨ s0 268 8 < n) := by omega
    refine x_aload_n hx hb hl 0 rfl dX11_law_26 rfl ?_
    refine x_iload_n hx hb hl 1 rfl dX11_law_27 rfl ?_
    refine x_put (j := 10) hx hb hown hT hE hW cls_X11 (by decide) (fun σ => so_268 h0 g σ) (by decide) (st_X11_10 h0 s7 268 n) (ln_X11_10 h0 _ _) wq1195 rfl rfl rfl rn dX11_law_28 (fun H locs s17 es17 hW => ?_)
    have q18 : IMn s17 := by rw [es17]; exact IMn_268 q8 (by omega)
    have q19 : IMk s17 := by rw [es17]; exact IMk_268 q9 (by omega)
    have q20 : IMo s17 := by rw [es17]; exact IMo_o (by unfold suIMo; first | decide | omega) q10
    have q21 : s17 268 58 = s0 268 58 := (show s17 268 58 = s7 268 58 from by rw [es17, xU_j _ _ (by decide)]).trans q11
    have q22 : s17 268 48 = s0 268 48 := (show s17 268 48 = s7 268 48 from by rw [es17, xU_j _ _ (by decide)]).trans q12
    have q23 : s17 268 8 = s0 268 8 := (show s17 268 8 = s7 268 8 from by rw [es17, xU_j _ _ (by decide)]).trans q13
    have q24 : s17 268 17 = s0 268 17 := (show s17 268 17 = s7 268 17 from by rw [es17, xU_j _ _ (by decide)]).trans q14
    have q25 : s17 268 9 = 0 := (show s17 268 9 = s7 268 9 from by rw [es17, xU_j _ _ (by decide)]).trans q15
    have q26 : s17 268 10 = n := by rw [es17, xU_s]
    have hF27 := hF16.put es17 (by omega)
    have q28 : IR s17 := by unfold IR; omega
    have E28 := es17
    refine x_aload_n hx hb hl 0 rfl dX11_law_31 rfl ?_
    refine x_iconst hx hb dX11_law_32 ?_
    refine x_put (j := 14) hx hb hown hT hE hW cls_X11 (by decide) (fun σ => so_268 h0 g σ) (by decide) (st_X11_14 h0 s17 268 0) (ln_X11_14 h0 _ _) wq1199 rfl rfl rfl (by decide) dX11_law_33 (fun H locs s29 es29 hW => ?_)
    have q30 : IMn s29 := by rw [es29]; exact IMn_268 q18 (by omega)
    have q31 : IMk s29 := by rw [es29]; exact IMk_268 q19 (by omega)
    have q32 : IMo s29 := by rw [es29]; exact IMo_o (by unfold suIMo; first | decide | omega) q20
    have q33 : s29 268 58 = s0 268 58 := (show s29 268 58 = s17 268 58 from by rw [es29, xU_j _ _ (by decide)]).trans q21
    have q34 : s29 268 48 = s0 268 48 := (show s29 268 48 = s17 268 48 from by rw [es29, xU_j _ _ (by decide)]).trans q22
    have q35 : s29 268 8 = s0 268 8 := (show s29 268 8 = s17 268 8 from by rw [es29, xU_j _ _ (by decide)]).trans q23
    have q36 : s29 268 17 = s0 268 17 := (show s29 268 17 = s17 268 17 from by rw [es29, xU_j _ _ (by decide)]).trans q24
    have q37 : s29 268 9 = 0 := (show s29 268 9 = s17 268 9 from by rw [es29, xU_j _ _ (by decide)]).trans q25
    have q38 : s29 268 10 = n := (show s29 268 10 = s17 268 10 from by rw [es29, xU_j _ _ (by decide)]).trans q26
    have q39 : IR s29 := by rw [es29]; exact IR_268 q28 (by omega)
    have q40 : s29 268 14 = 0 := by rw [es29, xU_s]
    have hF41 := hF27.put es29 (by omega)
    have E33 := es29
    refine x_aload_n hx hb hl 0 rfl dX11_law_36 rfl ?_
    refine x_iconst hx hb dX11_law_37 ?_
    refine x_put (j := 16) hx hb hown hT hE hW cls_X11 (by decide) (fun σ => so_268 h0 g σ) (by decide) (st_X11_16 h0 s29 268 0) (ln_X11_16 h0 _ _) wq1201 rfl rfl rfl (by decide) dX11_law_38 (fun H locs s42 es42 hW => ?_)
    have q43 : IMn s42 := by rw [es42]; exact IMn_268 q30 (by omega)
    have q44 : IMk s42 := by rw [es42]; exact IMk_268 q31 (by omega)
    have q45 : IMo s42 := by rw [es42]; exact IMo_o (by unfold suIMo; first | decide | omega) q32
    have q46 : s42 268 58 = s0 268 58 := (show s42 268 58 = s29 268 58 from by rw [es42, xU_j _ _ (by decide)]).trans q33
    have q47 : s42 268 48 = s0 268 48 := (show s42 268 48 = s29 268 48 from by rw [es42, xU_j _ _ (by decide)]).trans q34
    have q48 : s42 268 8 = s0 268 8 := (show s42 268 8 = s29 268 8 from by rw [es42, xU_j _ _ (by decide)]).trans q35
    have q49 : s42 268 17 = s0 268 17 := (show s42 268 17 = s29 268 17 from by rw [es42, xU_j _ _ (by decide)]).trans q36
    have q50 : s42 268 9 = 0 := (show s42 268 9 = s29 268 9 from by rw [es42, xU_j _ _ (by decide)]).trans q37
    have q51 : s42 268 10 = n := (show s42 268 10 = s29 268 10 from by rw [es42, xU_j _ _ (by decide)]).trans q38
    have q52 : IR s42 := by rw [es42]; exact IR_268 q39 (by omega)
    have q53 : s42 268 14 = 0 := (show s42 268 14 = s29 268 14 from by rw [es42, xU_j _ _ (by decide)]).trans q40
    have q54 : s42 268 16 = 0 := by rw [es42, xU_s]
    have hF55 := hF41.put es42 (by omega)
    have E38 := es42
    have Q38 : s42 283 = s0 283 ∧ s42 284 = s0 284 ∧ s42 285 = s0 285 ∧ s42 286 = s0 286 ∧ s42 287 = s0 287 := by rw [E38, xU_k _ _ _ (by first | decide | omega), xU_k _ _ _ (by first | decide | omega), xU_k _ _ _ (by first | decide | omega), xU_k _ _ _ (by first | decide | omega), xU_k _ _ _ (by first | decide | omega), E33, xU_k _ _ _ (by first | decide | omega), xU_k _ _ _ (by first | decide | omega), xU_k _ _ _ (by first | decide | omega), xU_k _ _ _ (by first | decide | omega), xU_k _ _ _ (by first | decide | omega), E28, xU_k _ _ _ (by first | decide | omega), xU_k _ _ _ (by first | decide | omega), xU_k _ _ _ (by first | decide | omega), xU_k _ _ _ (by first | decide | omega), xU_k _ _ _ (by first | decide | omega), E23, xU_k _ _ _ (by first | decide | omega), xU_k _ _ _ (by first | decide | omega), xU_k _ _ _ (by first | decide | omega), xU_k _ _ _ (by first | decide | omega), xU_k _ _ _ (by first | decide | omega)]; exact ⟨rfl, rfl, rfl, rfl, rfl⟩
    have P38 : s42 277 = s0 277 ∧ s42 279 = s0 279 ∧ s42 280 = s0 280 ∧ s42 281 = s0 281 ∧ s42 282 = s0 282 := by rw [E38, xU_k _ _ _ (by first | decide | omega), xU_k _ _ _ (by first | decide | omega), xU_k _ _ _ (by first | decide | omega), xU_k _ _ _ (by first | decide | omega), xU_k _ _ _ (by first | decide | omega), E33, xU_k _ _ _ (by first | decide | omega), xU_k _ _ _ (by first | decide | omega), xU_k _ _ _ (by first | decide | omega), xU_k _ _ _ (by first | decide | omega), xU_k _ _ _ (by first | decide | omega), E28, xU_k _ _ _ (by first | decide | omega), xU_k _ _ _ (by first | decide | omega), xU_k _ _ _ (by first | decide | omega), xU_k _ _ _ (by first | decide | omega), xU_k _ _ _ (by first | decide | omega), E23, xU_k _ _ _ (by first | decide | omega), xU_k _ _ _ (by first | decide | omega), xU_k _ _ _ (by first | decide | omega), xU_k _ _ _ (by first | decide | omega), xU_k _ _ _ (by first | decide | omega)]; exact ⟨rfl, rfl, rfl, rfl, rfl⟩
    have Z38 : zLX (xm8 (s0 276)) n ZM true (s42 268 16) (s42 268 9) (s42 268 14) (s42 277) (s42 279) (s42 280) (s42 281) (s42 282) := by
      rw [show s42 268 16 = 0 from by omega, show s42 268 9 = 0 from by omega, show s42 268 14 = 0 from by omega, P38.1, P38.2.1, P38.2.2.1, P38.2.2.2.1, P38.2.2.2.2, eZM]
      exact zLX.new (by omega)
    refine x_aload_n hx hb hl 0 rfl dX11_law_41 rfl ?_
    refine x_goi (x_runV (As := []) hx hb hml hown hT hE hW hl.1 (Or.inl (by decide)) (so_268 h0 g _) rfl cf_X11_readsClause wq1465 wq115 wq1463 (c_X11_readsClauseK l D g T h0 s42 hW.2.1 (xm8 (s0 276)) n ZM (⟨by rw [hF55 276 (by first | decide | omega)], by omega⟩) (Z38) q43 q44 q45 q52) ⟨rfl, rfl, ⟨by decide, by decide⟩, ⟨by decide, by decide⟩⟩ rfl rfl (Nat.le_of_ble_eq_true rfl) dX11_law_42) hW (fun x56 s57 H locs rx56 hp58 hW => ?_)
    obtain ⟨fs57, hp58⟩ := hp58
    have hF59 := hF55.call fs57 (fun k h => by omega)
    have ghp58 := hp58.2
    have H42 := fun (_ : Unit) => ghp58
    clear ghp58
    replace hp58 := And.intro hp58.1 trivial
    have Q42 : s57 283 = s0 283 ∧ s57 284 = s0 284 ∧ s57 285 = s0 285 ∧ s57 286 = s0 286 ∧ s57 287 = s0 287 := ⟨(fs57 283 (by first | decide | omega)).trans Q38.1, (fs57 284 (by first | decide | omega)).trans Q38.2.1, (fs57 285 (by first | decide | omega)).trans Q38.2.2.1, (fs57 286 (by first | decide | omega)).trans Q38.2.2.2.1, (fs57 287 (by first | decide | omega)).trans Q38.2.2.2.2⟩
    refine lv_istore_n (lv' := [(2, .int (xJ x56)), (0, .ref (h0 + 268)), (1, .int (xJ n))]) hx hb dX11_law_45 rfl hl (by decide) rfl (fun ls hl => ?_)
    have L46 : ∀ (fu : Nat) (i2_46 : Int) (s_46 : xS) (H : Heap) (locs : List Loc) (ls : Array Slot), (xR i2_46) → (xFr (fun k => k = 268 ∨ k = 277 ∨ k = 278 ∨ k = 279 ∨ k = 280 ∨ k = 281 ∨ k = 282 ∨ k = 283 ∨ k = 284 ∨ k = 285 ∨ k = 286 ∨ k = 287) s0 s_46) → (IMn s_46) → (IMk s_46) → (IMo s_46) → (IR s_46) → (s_46 268 8 = s0 268 8) → (s_46 268 58 = s0 268 58) → (s_46 268 17 = s0 268 17) → (s_46 268 10 = n) → (s_46 268 48 = s0 268 48) → (zR2 (i2_46 = 0 ∧ ZM.1 ≠ 0 ∧ s_46 268 11 = ZM.1) (i2_46 = 1 ∧ zLX (xm8 (s0 276)) n ZM false (s_46 268 16) (s_46 268 9) (s_46 268 14) (s_46 277) (s_46 279) (s_46 280) (s_46 281) (s_46 282))) → (s_46 283 = s0 283 ∧ s_46 284 = s0 284 ∧ s_46 285 = s0 285 ∧ s_46 286 = s0 286 ∧ s_46 287 = s0 287) → (i2_46 * (242 - s_46 268 9)).toNat < fu → xW D g h0 s H locs s_46 → lv_has ls 4 [(0, .ref (h0 + 268)), (2, .int (xJ i2_46))] → W p l e { frames := 8, cells := 0, slots := 0, locals := 166 } s m args below meth c H locs 0 0 Q (F0 m 46 ls []) := by
      intro fu
      induction fu with
      | zero => intro i2_46 s_46 H locs ls ri2_46 hF_46 q46_0 q46_1 q46_2 q46_3 q46_4 q46_5 q46_6 q46_7 q46_8 v46_0 v46_1 hm; exact absurd hm (Nat.not_lt_zero _)
      | succ fu ih46 =>
        intro i2_46 s_46 H locs ls ri2_46 hF_46 q46_0 q46_1 q46_2 q46_3 q46_4 q46_5 q46_6 q46_7 q46_8 v46_0 v46_1 hm hW hl
        have hm_46 := fun (_ : Unit) => hm
        clear hm
        have r46 : 0 ≤ s_46 268 9 ∧ s_46 268 9 ≤ s_46 268 10 ∧ s_46 268 10 ≤ 240 := q46_3
        refine x_iload_n hx hb hl 1 rfl dX11_law_46 rfl ?_
        have J86 : ∀ (ls : Array Slot), (zR2 (i2_46 = 0 ∧ ZM.1 ≠ 0 ∧ s_46 268 11 = ZM.1) (i2_46 = 1 ∧ ZM = (0, s_46 268 16, s_46 268 14, s_46 277, s_46 279, s_46 280, s_46 281, s_46 282))) → lv_has ls 4 [(0, .ref (h0 + 268)), (2, .int (xJ i2_46))] → W p l e { frames := 8, cells := 0, slots := 0, locals := 166 } s m args below meth c H locs 0 0 Q (F0 m 86 ls []) := by
          intro ls v86_0  hl
          refine x_aload_n hx hb hl 0 rfl dX11_law_86 rfl ?_
          refine x_iconst hx hb dX11_law_87 ?_
          refine x_put (j := 8) hx hb hown hT hE hW cls_X11 (by decide) (fun σ => so_268 h0 g σ) (by decide) (st_X11_8 h0 s_46 268 0) (ln_X11_8 h0 _ _) wq1193 rfl rfl rfl (by decide) dX11_law_88 (fun H locs s60 es60 hW => ?_)
          have q61 : IMn s60 := by rw [es60]; exact IMn_268 q46_0 (by omega)
          have q62 : IMk s60 := by rw [es60]; exact IMk_268 q46_1 (by omega)
          have q63 : IMo s60 := by rw [es60]; exact IMo_o (by unfold suIMo; first | decide | omega) q46_2
          have q64 : IR s60 := by rw [es60]; exact IR_268 q46_3 (by omega)
          have q65 : s60 268 8 = 0 := by rw [es60, xU_s]
          have q66 : s60 268 58 = s0 268 58 := (show s60 268 58 = s_46 268 58 from by rw [es60, xU_j _ _ (by decide)]).trans q46_5
          have q67 : s60 268 17 = s0 268 17 := (show s60 268 17 = s_46 268 17 from by rw [es60, xU_j _ _ (by decide)]).trans q46_6
          have q68 : s60 268 10 = n := (show s60 268 10 = s_46 268 10 from by rw [es60, xU_j _ _ (by decide)]).trans q46_7
          have q69 : s60 268 48 = s0 268 48 := (show s60 268 48 = s_46 268 48 from by rw [es60, xU_j _ _ (by decide)]).trans q46_8
          have hF70 := hF_46.put es60 (by omega)
          have E88 := es60
          have K88 : s60 268 11 = s_46 268 11 := by rw [E88, xU_j _ _ (by decide)]
          have Q88 : s60 283 = s0 283 ∧ s60 284 = s0 284 ∧ s60 285 = s0 285 ∧ s60 286 = s0 286 ∧ s60 287 = s0 287 := by rw [E88, xU_k _ _ _ (by first | decide | omega), xU_k _ _ _ (by first | decide | omega), xU_k _ _ _ (by first | decide | omega), xU_k _ _ _ (by first | decide | omega), xU_k _ _ _ (by first | decide | omega)]; exact v46_1
          refine x_iload_n hx hb hl 1 rfl dX11_law_91 rfl ?_
          refine x_if_ne (tgt := 100) hx hb ri2_46 dX11_law_92 (by decide) (fun c71 => ?_) (fun c71 => ?_)
          · skip
            refine x_aload_n hx hb hl 0 rfl dX11_law_100 rfl ?_
            refine x_aload_n hx hb hl 0 rfl dX11_law_101 rfl ?_
            refine x_get (j := 16) (v := .int (xJ (s60 268 16))) hx hb hown hT hE hW cls_X11 (Or.inl (by decide)) (so_268 h0 g _) (by decide) rfl wq1201 dX11_law_102 ?_
            refine x_rd hW (fun x72 ex72 rx72 => ?_)
            have q73 : s60 268 16 = x72 := ex72.symm
            refine x_put (j := 17) hx hb hown hT hE hW cls_X11 (by decide) (fun σ => so_268 h0 g σ) (by decide) (st_X11_17 h0 s60 268 x72) (ln_X11_17 h0 _ _) wq1202 rfl rfl rfl rx72 dX11_law_105 (fun H locs s74 es74 hW => ?_)
            have q75 : IMn s74 := by rw [es74]; exact IMn_268 q61 (by omega)
            have q76 : IMo s74 := by rw [es74]; exact IMo_o (by unfold suIMo; first | decide | omega) q63
            have q77 : IR s74 := by rw [es74]; exact IR_268 q64 (by omega)
            have q78 : s74 268 8 = 0 := (show s74 268 8 = s60 268 8 from by rw [es74, xU_j _ _ (by decide)]).trans q65
            have q79 : s74 268 58 = s0 268 58 := (show s74 268 58 = s60 268 58 from by rw [es74, xU_j _ _ (by decide)]).trans q66
            have q80 : s74 268 17 = x72 := by rw [es74, xU_s]
            have q81 : s74 268 10 = n := (show s74 268 10 = s60 268 10 from by rw [es74, xU_j _ _ (by decide)]).trans q68
            have q82 : s74 268 48 = s0 268 48 := (show s74 268 48 = s60 268 48 from by rw [es74, xU_j _ _ (by decide)]).trans q69
            have q83 : s74 268 16 = x72 := (show s74 268 16 = s60 268 16 from by rw [es74, xU_j _ _ (by decide)]).trans q73
            have hF84 := hF70.put es74 (by omega)
            have E105 := es74
            have M105 : s74 268 14 = s_46 268 14 ∧ s74 268 16 = s_46 268 16 := by rw [E105, xU_j _ _ (by decide), xU_j _ _ (by decide), E88, xU_j _ _ (by decide), xU_j _ _ (by decide)]; exact ⟨rfl, rfl⟩
            obtain ⟨M6, eM6⟩ : ∃ p : Int, p = s_46 268 16 := ⟨_, rfl⟩
            obtain ⟨c6, ec6⟩ : ∃ p : Int, p = s_46 268 14 := ⟨_, rfl⟩
            obtain ⟨K6, eK6⟩ : ∃ K, K = s_46 277 := ⟨_, rfl⟩
            obtain ⟨K7, eK7⟩ : ∃ K, K = s_46 279 := ⟨_, rfl⟩
            obtain ⟨K8, eK8⟩ : ∃ K, K = s_46 280 := ⟨_, rfl⟩
            obtain ⟨K9, eK9⟩ : ∃ K, K = s_46 281 := ⟨_, rfl⟩
            obtain ⟨K0, eK0⟩ : ∃ K, K = s_46 282 := ⟨_, rfl⟩
            have e6 : ZM = (0, M6, c6, K6, K7, K8, K9, K0) := by rw [eM6, ec6, eK6, eK7, eK8, eK9, eK0]; exact (v86_0.resolve_left (fun q => by omega)).2
            have w6 := zL0_wf (by omega) (eZM.symm.trans e6)
            have Q105 : (s74 277 = K6 ∧ s74 279 = K7 ∧ s74 280 = K8 ∧ s74 281 = K9 ∧ s74 282 = K0) ∧ (s74 268 14 = c6 ∧ s74 268 16 = M6 ∧ s74 268 17 = M6) := ⟨by rw [E105, xU_k _ _ _ (by first | decide | omega), xU_k _ _ _ (by first | decide | omega), xU_k _ _ _ (by first | decide | omega), xU_k _ _ _ (by first | decide | omega), xU_k _ _ _ (by first | decide | omega), E88, xU_k _ _ _ (by first | decide | omega), xU_k _ _ _ (by first | decide | omega), xU_k _ _ _ (by first | decide | omega), xU_k _ _ _ (by first | decide | omega), xU_k _ _ _ (by first | decide | omega)]; exact ⟨eK6.symm, eK7.symm, eK8.symm, eK9.symm, eK0.symm⟩, by omega⟩
            refine x_iconst hx hb dX11_law_108 ?_
            refine lv_istore_n (lv' := [(3, .int (xJ 0)), (0, .ref (h0 + 268)), (2, .int (xJ i2_46))]) hx hb dX11_law_109 rfl hl (by decide) rfl (fun ls hl => ?_)
            clear E105 E23 E28 E33 E38 E88 H42 K88 M105 P38 Q38 Q42 Q88 Z38 bx5 c4 c71 eK0 eK6 eK7 eK8 eK9 eM6 ec6 es17 es29 es42 es60 es7 es74 ex5 ex72 fs57 fx5 hF16 hF27 hF41 hF55 hF59 hF70 hF_46 hm_46 hp58 k268_17 k268_48 k268_58 k268_8 n5 q10 q11 q12 q13 q14 q15 q18 q19 q20 q21 q22 q23 q24 q25 q26 q28 q30 q31 q32 q33 q34 q35 q36 q37 q38 q39 q40 q43 q44 q45 q46 q46_0 q46_1 q46_2 q46_3 q46_4 q46_5 q46_6 q46_7 q46_8 q47 q48 q49 q50 q51 q52 q53 q54 q61 q62 q63 q64 q65 q66 q67 q68 q69 q73 q8 q9 r46 rx1 rx5 rx56 rx72 v46_0 v46_1 v86_0
            have L110 : ∀ (fu : Nat) (i3_110 : Int) (s_110 : xS) (H : Heap) (locs : List Loc) (ls : Array Slot), (xR i3_110) → (xFr (fun k => k = 268 ∨ k = 277 ∨ k = 278 ∨ k = 279 ∨ k = 280 ∨ k = 281 ∨ k = 282 ∨ k = 283 ∨ k = 284 ∨ k = 285 ∨ k = 286 ∨ k = 287) s0 s_110) → (IMn s_110) → (IMo s_110) → (IR s_110) → (s_110 268 8 = 0) → (s_110 268 58 = s0 268 58) → (s_110 268 17 = x72) → (s_110 268 10 = n) → (s_110 268 48 = s0 268 48) → (s_110 268 16 = x72) → (0 ≤ i3_110 ∧ i3_110 ≤ c6) → (s_110 277 = K6 ∧ s_110 279 = K7 ∧ s_110 280 = K8 ∧ s_110 281 = K9 ∧ s_110 282 = K0) → (s_110 268 14 = c6 ∧ s_110 268 16 = M6 ∧ s_110 268 17 = M6) → (∀ q : Int, 0 ≤ q → q < i3_110 → s_110 283 q = K6 q) → (241 - i3_110).toNat < fu → xW D g h0 s H locs s_110 → lv_has ls 4 [(0, .ref (h0 + 268)), (3, .int (xJ i3_110))] → W p l e { frames := 8, cells := 0, slots := 0, locals := 166 } s m args below meth c H locs 0 0 Q (F0 m 110 ls []) := by
              intro fu
              induction fu with
              | zero => intro i3_110 s_110 H locs ls ri3_110 hF_110 q110_0 q110_1 q110_2 q110_3 q110_4 q110_5 q110_6 q110_7 q110_8 v110_0 v110_1 v110_2 v110_3 hm; exact absurd hm (Nat.not_lt_zero _)
              | succ fu ih110 =>
                intro i3_110 s_110 H locs ls ri3_110 hF_110 q110_0 q110_1 q110_2 q110_3 q110_4 q110_5 q110_6 q110_7 q110_8 v110_0 v110_1 v110_2 v110_3 hm hW hl
                have hm_110 := fun (_ : Unit) => hm
                clear hm
                refine x_iload_n hx hb hl 1 rfl dX11_law_110 rfl ?_
                refine x_aload_n hx hb hl 0 rfl dX11_law_111 rfl ?_
                refine x_get (j := 14) (v := .int (xJ (s_110 268 14))) hx hb hown hT hE hW cls_X11 (Or.inl (by decide)) (so_268 h0 g _) (by decide) rfl wq1199 dX11_law_112 ?_
                refine x_rd hW (fun x85 ex85 rx85 => ?_)
                have q86 : s_110 268 14 = x85 := ex85.symm
                refine x_icmp_ge (tgt := 136) hx hb ri3_110 rx85 dX11_law_115 (by decide) (fun c87 => ?_) (fun c87 => ?_)
                · skip
                  refine x_iconst hx hb dX11_law_136 ?_
                  refine lv_istore_n (lv' := [(3, .int (xJ 0)), (0, .ref (h0 + 268))]) hx hb dX11_law_137 rfl hl (by decide) rfl (fun ls hl => ?_)
                  clear Q105 ex85 hF84 hm_110 q75 q76 q77 q78 q79 q80 q81 q82 q83 rx85 v110_0
                  have L138 : ∀ (fu : Nat) (i3_138 : Int) (s_138 : xS) (H : Heap) (locs : List Loc) (ls : Array Slot), (xR i3_138) → (xFr (fun k => k = 268 ∨ k = 277 ∨ k = 278 ∨ k = 279 ∨ k = 280 ∨ k = 281 ∨ k = 282 ∨ k = 283 ∨ k = 284 ∨ k = 285 ∨ k = 286 ∨ k = 287) s0 s_138) → (IMn s_138) → (IMo s_138) → (IR s_138) → (s_138 268 8 = 0) → (s_138 268 58 = s0 268 58) → (s_138 268 17 = x72) → (s_138 268 10 = n) → (s_138 268 48 = s0 268 48) → (s_138 268 16 = x72) → (s_138 268 14 = x85) → (0 ≤ i3_138 ∧ i3_138 ≤ M6) → (s_138 277 = K6 ∧ s_138 279 = K7 ∧ s_138 280 = K8 ∧ s_138 281 = K9 ∧ s_138 282 = K0) → (s_138 268 14 = c6 ∧ s_138 268 16 = M6 ∧ s_138 268 17 = M6) → (∀ q : Int, 0 ≤ q → q < c6 → s_138 283 q = K6 q) → (∀ q : Int, 0 ≤ q → q < i3_138 → s_138 284 q = K7 q ∧ s_138 285 q = K8 q ∧ s_138 286 q = K9 q ∧ s_138 287 q = K0 q) → (17 - i3_138).toNat < fu → xW D g h0 s H locs s_138 → lv_has ls 4 [(0, .ref (h0 + 268)), (3, .int (xJ i3_138))] → W p l e { frames := 8, cells := 0, slots := 0, locals := 166 } s m args below meth c H locs 0 0 Q (F0 m 138 ls []) := by
                    intro fu
                    induction fu with
                    | zero => intro i3_138 s_138 H locs ls ri3_138 hF_138 q138_0 q138_1 q138_2 q138_3 q138_4 q138_5 q138_6 q138_7 q138_8 q138_9 v138_0 v138_1 v138_2 v138_3 v138_4 hm; exact absurd hm (Nat.not_lt_zero _)
                    | succ fu ih138 =>
                      intro i3_138 s_138 H locs ls ri3_138 hF_138 q138_0 q138_1 q138_2 q138_3 q138_4 q138_5 q138_6 q138_7 q138_8 q138_9 v138_0 v138_1 v138_2 v138_3 v138_4 hm hW hl
                      have hm_138 := fun (_ : Unit) => hm
                      clear hm
                      refine x_iload_n hx hb hl 1 rfl dX11_law_138 rfl ?_
                      refine x_aload_n hx hb hl 0 rfl dX11_law_139 rfl ?_
                      refine x_get (j := 16) (v := .int (xJ (s_138 268 16))) hx hb hown hT hE hW cls_X11 (Or.inl (by decide)) (so_268 h0 g _) (by decide) rfl wq1201 dX11_law_140 ?_
                      refine x_rd hW (fun x88 ex88 rx88 => ?_)
                      have fx88 : x88 = x72 := ex88.trans q138_8
                      refine x_icmp_ge (tgt := 200) hx hb ri3_138 rx88 dX11_law_143 (by decide) (fun c89 => ?_) (fun c89 => ?_)
                      · skip
                        refine x_aload_n hx hb hl 0 rfl dX11_law_200 rfl ?_
                        refine x_get (j := 16) (v := .int (xJ (s_138 268 16))) hx hb hown hT hE hW cls_X11 (Or.inl (by decide)) (so_268 h0 g _) (by decide) rfl wq1201 dX11_law_201 ?_
                        refine x_rd hW (fun x90 ex90 rx90 => ?_)
                        have fx90 : x90 = x72 := ex90.trans q138_8
                        rw [eQ]
                        exact x_iret hx hb hr hlk hW rx90 ⟨hF_138, ⟨q138_0, (w6.1.imk (by omega) w6.2.2.2 w6.2.2.1 (fun k k1 k2 => v138_3 k k1 k2) (fun q q1 q2 => v138_4 q q1 (by omega))), q138_1, q138_4, q138_7, trivial⟩, by
                            rw [← eZM]
                            exact Or.inr ⟨hCN, by omega, Or.inr ⟨M6, c6, K6, K7, K8, K9, K0, e6, by omega, by omega, fun k k1 k2 => v138_3 k k1 k2, fun q q1 q2 => v138_4 q q1 (by omega)⟩⟩⟩ dX11_law_204
                      refine x_aload_n hx hb hl 0 rfl dX11_law_146 rfl ?_
                      refine x_get (j := 25) (v := .ref (h0 + 284)) hx hb hown hT hE hW cls_X11 (Or.inl (by decide)) (so_268 h0 g _) (by decide) rfl wq1210 dX11_law_147 ?_
                      refine x_iload_n hx hb hl 1 rfl dX11_law_150 rfl ?_
                      refine x_aload_n hx hb hl 0 rfl dX11_law_151 rfl ?_
                      refine x_get (j := 20) (v := .ref (h0 + 279)) hx hb hown hT hE hW cls_X11 (Or.inl (by decide)) (so_268 h0 g _) (by decide) rfl wq1205 dX11_law_152 ?_
                      refine x_iload_n hx hb hl 1 rfl dX11_law_155 rfl ?_
                      refine x_iald hx hb hE hW (Or.inl (by decide)) (sa_279 h0 g _) (by omega) (by decide) dX11_law_156 ?_
                      refine x_rd hW (fun x91 ex91 rx91 => ?_)
                      have R156 : x91 = K7 i3_138 := by rw [ex91, v138_1.2.1]
                      refine x_iast hx hb hE hW (by decide) (fun σ => sa_284 h0 g σ) (by omega) (by decide) rx91 dX11_law_157 (fun H locs s92 es92 hW => ?_)
                      have q93 : IMn s92 := by rw [es92]; exact IMn_o (by unfold suIMn; first | decide | omega) q138_0
                      have q94 : IMo s92 := by rw [es92]; exact IMo_o (by unfold suIMo; first | decide | omega) q138_1
                      have q95 : IR s92 := by rw [es92]; exact IR_o (by unfold suIR; first | decide | omega) q138_2
                      have q96 : s92 268 8 = 0 := (show s92 268 8 = s_138 268 8 from by rw [es92, xU_k _ _ _ (by first | decide | omega)]).trans q138_3
                      have q97 : s92 268 58 = s0 268 58 := (show s92 268 58 = s_138 268 58 from by rw [es92, xU_k _ _ _ (by first | decide | omega)]).trans q138_4
                      have q98 : s92 268 17 = x72 := (show s92 268 17 = s_138 268 17 from by rw [es92, xU_k _ _ _ (by first | decide | omega)]).trans q138_5
                      have q99 : s92 268 10 = n := (show s92 268 10 = s_138 268 10 from by rw [es92, xU_k _ _ _ (by first | decide | omega)]).trans q138_6
                      have q100 : s92 268 48 = s0 268 48 := (show s92 268 48 = s_138 268 48 from by rw [es92, xU_k _ _ _ (by first | decide | omega)]).trans q138_7
                      have q101 : s92 268 16 = x72 := (show s92 268 16 = s_138 268 16 from by rw [es92, xU_k _ _ _ (by first | decide | omega)]).trans q138_8
                      have q102 : s92 268 14 = x85 := (show s92 268 14 = s_138 268 14 from by rw [es92, xU_k _ _ _ (by first | decide | omega)]).trans q138_9
                      have hF103 := hF_138.put es92 (by omega)
                      have E157 := es92
                      refine x_aload_n hx hb hl 0 rfl dX11_law_158 rfl ?_
                      refine x_get (j := 26) (v := .ref (h0 + 285)) hx hb hown hT hE hW cls_X11 (Or.inl (by decide)) (so_268 h0 g _) (by decide) rfl wq1211 dX11_law_159 ?_
                      refine x_iload_n hx hb hl 1 rfl dX11_law_162 rfl ?_
                      refine x_aload_n hx hb hl 0 rfl dX11_law_163 rfl ?_
                      refine x_get (j := 21) (v := .ref (h0 + 280)) hx hb hown hT hE hW cls_X11 (Or.inl (by decide)) (so_268 h0 g _) (by decide) rfl wq1206 dX11_law_164 ?_
                      refine x_iload_n hx hb hl 1 rfl dX11_law_167 rfl ?_
                      refine x_iald hx hb hE hW (Or.inl (by decide)) (sa_280 h0 g _) (by omega) (by decide) dX11_law_168 ?_
                      refine x_rd hW (fun x104 ex104 rx104 => ?_)
                      have R168 : x104 = K8 i3_138 := by rw [ex104, E157, xU_k _ _ _ (by first | decide | omega), v138_1.2.2.1]
                      refine x_iast hx hb hE hW (by decide) (fun σ => sa_285 h0 g σ) (by omega) (by decide) rx104 dX11_law_169 (fun H locs s105 es105 hW => ?_)
                      have q106 : IMn s105 := by rw [es105]; exact IMn_o (by unfold suIMn; first | decide | omega) q93
                      have q107 : IMo s105 := by rw [es105]; exact IMo_o (by unfold suIMo; first | decide | omega) q94
                      have q108 : IR s105 := by rw [es105]; exact IR_o (by unfold suIR; first | decide | omega) q95
                      have q109 : s105 268 8 = 0 := (show s105 268 8 = s92 268 8 from by rw [es105, xU_k _ _ _ (by first | decide | omega)]).trans q96
                      have q110 : s105 268 58 = s0 268 58 := (show s105 268 58 = s92 268 58 from by rw [es105, xU_k _ _ _ (by first | decide | omega)]).trans q97
                      have q111 : s105 268 17 = x72 := (show s105 268 17 = s92 268 17 from by rw [es105, xU_k _ _ _ (by first | decide | omega)]).trans q98
                      have q112 : s105 268 10 = n := (show s105 268 10 = s92 268 10 from by rw [es105, xU_k _ _ _ (by first | decide | omega)]).trans q99
                      have q113 : s105 268 48 = s0 268 48 := (show s105 268 48 = s92 268 48 from by rw [es105, xU_k _ _ _ (by first | decide | omega)]).trans q100
                      have q114 : s105 268 16 = x72 := (show s105 268 16 = s92 268 16 from by rw [es105, xU_k _ _ _ (by first | decide | omega)]).trans q101
                      have q115 : s105 268 14 = x85 := (show s105 268 14 = s92 268 14 from by rw [es105, xU_k _ _ _ (by first | decide | omega)]).trans q102
                      have hF116 := hF103.put es105 (by omega)
                      have E169 := es105
                      refine x_aload_n hx hb hl 0 rfl dX11_law_170 rfl ?_
                      refine x_get (j := 27) (v := .ref (h0 + 286)) hx hb hown hT hE hW cls_X11 (Or.inl (by decide)) (so_268 h0 g _) (by decide) rfl wq1212 dX11_law_171 ?_
                      refine x_iload_n hx hb hl 1 rfl dX11_law_174 rfl ?_
                      refine x_aload_n hx hb hl 0 rfl dX11_law_175 rfl ?_
                      refine x_get (j := 22) (v := .ref (h0 + 281)) hx hb hown hT hE hW cls_X11 (Or.inl (by decide)) (so_268 h0 g _) (by decide) rfl wq1207 dX11_law_176 ?_
                      refine x_iload_n hx hb hl 1 rfl dX11_law_179 rfl ?_
                      refine x_iald hx hb hE hW (Or.inl (by decide)) (sa_281 h0 g _) (by omega) (by decide) dX11_law_180 ?_
                      refine x_rd hW (fun x117 ex117 rx117 => ?_)
                      have R180 : x117 = K9 i3_138 := by rw [ex117, E169, xU_k _ _ _ (by first | decide | omega), E157, xU_k _ _ _ (by first | decide | omega), v138_1.2.2.2.1]
                      refine x_iast hx hb hE hW (by decide) (fun σ => sa_286 h0 g σ) (by omega) (by decide) rx117 dX11_law_181 (fun H locs s118 es118 hW => ?_)
                      have q119 : IMn s118 := by rw [es118]; exact IMn_o (by unfold suIMn; first | decide | omega) q106
                      have q120 : IMo s118 := by rw [es118]; exact IMo_o (by unfold suIMo; first | decide | omega) q107
                      have q121 : IR s118 := by rw [es118]; exact IR_o (by unfold suIR; first | decide | omega) q108
                      have q122 : s118 268 8 = 0 := (show s118 268 8 = s105 268 8 from by rw [es118, xU_k _ _ _ (by first | decide | omega)]).trans q109
                      have q123 : s118 268 58 = s0 268 58 := (show s118 268 58 = s105 268 58 from by rw [es118, xU_k _ _ _ (by first | decide | omega)]).trans q110
                      have q124 : s118 268 17 = x72 := (show s118 268 17 = s105 268 17 from by rw [es118, xU_k _ _ _ (by first | decide | omega)]).trans q111
                      have q125 : s118 268 10 = n := (show s118 268 10 = s105 268 10 from by rw [es118, xU_k _ _ _ (by first | decide | omega)]).trans q112
                      have q126 : s118 268 48 = s0 268 48 := (show s118 268 48 = s105 268 48 from by rw [es118, xU_k _ _ _ (by first | decide | omega)]).trans q113
                      have q127 : s118 268 16 = x72 := (show s118 268 16 = s105 268 16 from by rw [es118, xU_k _ _ _ (by first | decide | omega)]).trans q114
                      have q128 : s118 268 14 = x85 := (show s118 268 14 = s105 268 14 from by rw [es118, xU_k _ _ _ (by first | decide | omega)]).trans q115
                      have hF129 := hF116.put es118 (by omega)
                      have E181 := es118
                      refine x_aload_n hx hb hl 0 rfl dX11_law_182 rfl ?_
                      refine x_get (j := 28) (v := .ref (h0 + 287)) hx hb hown hT hE hW cls_X11 (Or.inl (by decide)) (so_268 h0 g _) (by decide) rfl wq1213 dX11_law_183 ?_
                      refine x_iload_n hx hb hl 1 rfl dX11_law_186 rfl ?_
                      refine x_aload_n hx hb hl 0 rfl dX11_law_187 rfl ?_
                      refine x_get (j := 23) (v := .ref (h0 + 282)) hx hb hown hT hE hW cls_X11 (Or.inl (by decide)) (so_268 h0 g _) (by decide) rfl wq1208 dX11_law_188 ?_
                      refine x_iload_n hx hb hl 1 rfl dX11_law_191 rfl ?_
                      refine x_iald hx hb hE hW (Or.inl (by decide)) (sa_282 h0 g _) (by omega) (by decide) dX11_law_192 ?_
                      refine x_rd hW (fun x130 ex130 rx130 => ?_)
                      have R192 : x130 = K0 i3_138 := by rw [ex130, E181, xU_k _ _ _ (by first | decide | omega), E169, xU_k _ _ _ (by first | decide | omega), E157, xU_k _ _ _ (by first | decide | omega), v138_1.2.2.2.2]
                      refine x_iast hx hb hE hW (by decide) (fun σ => sa_287 h0 g σ) (by omega) (by decide) rx130 dX11_law_193 (fun H locs s131 es131 hW => ?_)
                      have q132 : IMn s131 := by rw [es131]; exact IMn_o (by unfold suIMn; first | decide | omega) q119
                      have q133 : IMo s131 := by rw [es131]; exact IMo_o (by unfold suIMo; first | decide | omega) q120
                      have q134 : IR s131 := by rw [es131]; exact IR_o (by unfold suIR; first | decide | omega) q121
                      have q135 : s131 268 8 = 0 := (show s131 268 8 = s118 268 8 from by rw [es131, xU_k _ _ _ (by first | decide | omega)]).trans q122
                      have q136 : s131 268 58 = s0 268 58 := (show s131 268 58 = s118 268 58 from by rw [es131, xU_k _ _ _ (by first | decide | omega)]).trans q123
                      have q137 : s131 268 17 = x72 := (show s131 268 17 = s118 268 17 from by rw [es131, xU_k _ _ _ (by first | decide | omega)]).trans q124
                      have q138 : s131 268 10 = n := (show s131 268 10 = s118 268 10 from by rw [es131, xU_k _ _ _ (by first | decide | omega)]).trans q125
                      have q139 : s131 268 48 = s0 268 48 := (show s131 268 48 = s118 268 48 from by rw [es131, xU_k _ _ _ (by first | decide | omega)]).trans q126
                      have q140 : s131 268 16 = x72 := (show s131 268 16 = s118 268 16 from by rw [es131, xU_k _ _ _ (by first | decide | omega)]).trans q127
                      have q141 : s131 268 14 = x85 := (show s131 268 14 = s118 268 14 from by rw [es131, xU_k _ _ _ (by first | decide | omega)]).trans q128
                      have hF142 := hF129.put es131 (by omega)
                      have E193 := es131
                      have K193 : ∀ k : Nat, k ≠ 284 → k ≠ 285 → k ≠ 286 → k ≠ 287 → s131 k = s_138 k := fun k a b c d => by rw [E193, xU_k _ _ _ d, E181, xU_k _ _ _ c, E169, xU_k _ _ _ b, E157, xU_k _ _ _ a]
                      have N284 : s131 284 = xud (s_138 284) i3_138 (K7 i3_138) := by rw [E193, xU_k _ _ _ (by first | decide | omega), E181, xU_k _ _ _ (by first | decide | omega), E169, xU_k _ _ _ (by first | decide | omega), E157, xU_xud, R156]
                      have N285 : s131 285 = xud (s_138 285) i3_138 (K8 i3_138) := by rw [E193, xU_k _ _ _ (by first | decide | omega), E181, xU_k _ _ _ (by first | decide | omega), E169, xU_xud, E157, xU_k _ _ _ (by first | decide | omega), R168]
                      have N286 : s131 286 = xud (s_138 286) i3_138 (K9 i3_138) := by rw [E193, xU_k _ _ _ (by first | decide | omega), E181, xU_xud, E169, xU_k _ _ _ (by first | decide | omega), E157, xU_k _ _ _ (by first | decide | omega), R180]
                      have N287 : s131 287 = xud (s_138 287) i3_138 (K0 i3_138) := by rw [E193, xU_xud, E181, xU_k _ _ _ (by first | decide | omega), E169, xU_k _ _ _ (by first | decide | omega), E157, xU_k _ _ _ (by first | decide | omega), R192]
                      refine x_iinc (lv' := [(3, .int (xJ (i3_138 + 1))), (0, .ref (h0 + 268))]) hx hb hl 1 rfl dX11_law_194 (by decide) rfl (fun ls hl => ?_)
                      refine lv_goto (tgt := 138) hx hb dX11_law_197 (by decide) ?_
                      exact ih138 (i3_138 + 1) s131 H locs ls (by omega) hF142 q132 q133 q134 q135 q136 q137 q138 q139 q140 q141 (by omega) (by rw [K193 277 (by decide) (by decide) (by decide) (by decide), K193 279 (by decide) (by decide) (by decide) (by decide), K193 280 (by decide) (by decide) (by decide) (by decide), K193 281 (by decide) (by decide) (by decide) (by decide), K193 282 (by decide) (by decide) (by decide) (by decide)]; exact v138_1) (by rw [K193 268 (by decide) (by decide) (by decide) (by decide)]; exact v138_2) (by rw [K193 283 (by decide) (by decide) (by decide) (by decide)]; exact v138_3) (fun q q1 q2 => by
                          rw [N284, N285, N286, N287]
                          by_cases h : q = i3_138
                          · subst h; rw [xud_s, xud_s, xud_s, xud_s]; exact ⟨rfl, rfl, rfl, rfl⟩
                          · rw [xud_o _ _ h, xud_o _ _ h, xud_o _ _ h, xud_o _ _ h]; exact v138_4 q q1 (by omega)) (by have hm := hm_138 (); omega) hW (lv_sub hl [1, 0] rfl)
                  exact L138 ((17 - 0 : Int).toNat + 1) 0 s_110 H locs ls (by decide) hF_110 q110_0 q110_1 q110_2 q110_3 q110_4 q110_5 q110_6 q110_7 q110_8 q86 (by omega) (v110_1) (v110_2) (fun q q1 q2 => v110_3 q q1 (by omega)) (fun q q1 q2 => absurd q2 (by omega)) (Nat.lt_succ_self _) hW (lv_sub hl [1, 0] rfl)
                refine x_aload_n hx hb hl 0 rfl dX11_law_118 rfl ?_
                refine x_get (j := 24) (v := .ref (h0 + 283)) hx hb hown hT hE hW cls_X11 (Or.inl (by decide)) (so_268 h0 g _) (by decide) rfl wq1209 dX11_law_119 ?_
                refine x_iload_n hx hb hl 1 rfl dX11_law_122 rfl ?_
                refine x_aload_n hx hb hl 0 rfl dX11_law_123 rfl ?_
                refine x_get (j := 18) (v := .ref (h0 + 277)) hx hb hown hT hE hW cls_X11 (Or.inl (by decide)) (so_268 h0 g _) (by decide) rfl wq1203 dX11_law_124 ?_
                refine x_iload_n hx hb hl 1 rfl dX11_law_127 rfl ?_
                refine x_iald hx hb hE hW (Or.inl (by decide)) (sa_277 h0 g _) (by omega) (by decide) dX11_law_128 ?_
                refine x_rd hW (fun x143 ex143 rx143 => ?_)
                have R128 : x143 = K6 i3_110 := by rw [ex143, v110_1.1]
                refine x_iast hx hb hE hW (by decide) (fun σ => sa_283 h0 g σ) (by omega) (by decide) rx143 dX11_law_129 (fun H locs s144 es144 hW => ?_)
                have q145 : IMn s144 := by rw [es144]; exact IMn_o (by unfold suIMn; first | decide | omega) q110_0
                have q146 : IMo s144 := by rw [es144]; exact IMo_o (by unfold suIMo; first | decide | omega) q110_1
                have q147 : IR s144 := by rw [es144]; exact IR_o (by unfold suIR; first | decide | omega) q110_2
                have q148 : s144 268 8 = 0 := (show s144 268 8 = s_110 268 8 from by rw [es144, xU_k _ _ _ (by first | decide | omega)]).trans q110_3
                have q149 : s144 268 58 = s0 268 58 := (show s144 268 58 = s_110 268 58 from by rw [es144, xU_k _ _ _ (by first | decide | omega)]).trans q110_4
                have q150 : s144 268 17 = x72 := (show s144 268 17 = s_110 268 17 from by rw [es144, xU_k _ _ _ (by first | decide | omega)]).trans q110_5
                have q151 : s144 268 10 = n := (show s144 268 10 = s_110 268 10 from by rw [es144, xU_k _ _ _ (by first | decide | omega)]).trans q110_6
                have q152 : s144 268 48 = s0 268 48 := (show s144 268 48 = s_110 268 48 from by rw [es144, xU_k _ _ _ (by first | decide | omega)]).trans q110_7
                have q153 : s144 268 16 = x72 := (show s144 268 16 = s_110 268 16 from by rw [es144, xU_k _ _ _ (by first | decide | omega)]).trans q110_8
                have q154 : s144 268 14 = x85 := (show s144 268 14 = s_110 268 14 from by rw [es144, xU_k _ _ _ (by first | decide | omega)]).trans q86
                have hF155 := hF_110.put es144 (by omega)
                have E129 := es144
                refine x_iinc (lv' := [(3, .int (xJ (i3_110 + 1))), (0, .ref (h0 + 268))]) hx hb hl 1 rfl dX11_law_130 (by decide) rfl (fun ls hl => ?_)
                refine lv_goto (tgt := 110) hx hb dX11_law_133 (by decide) ?_
                exact ih110 (i3_110 + 1) s144 H locs ls (by omega) hF155 q145 q146 q147 q148 q149 q150 q151 q152 q153 (by omega) (by rw [E129, xU_k _ _ _ (by first | decide | omega), xU_k _ _ _ (by first | decide | omega), xU_k _ _ _ (by first | decide | omega), xU_k _ _ _ (by first | decide | omega), xU_k _ _ _ (by first | decide | omega)]; exact v110_1) (by rw [E129, xU_k _ _ _ (by first | decide | omega)]; exact v110_2) (fun q q1 q2 => (Classical.em (q < i3_110)).elim (fun h => by rw [E129, xU_j _ _ (by omega)]; exact v110_3 q q1 h) (fun h => by rw [show q = i3_110 from by omega, E129, xU_s]; exact R128)) (by have hm := hm_110 (); omega) hW (lv_sub hl [1, 0] rfl)
            exact L110 ((241 - 0 : Int).toNat + 1) 0 s74 H locs ls (by decide) hF84 q75 q76 q77 q78 q79 q80 q81 q82 q83 (by omega) (Q105.1) (Q105.2) (fun q q1 q2 => absurd q2 (by omega)) (Nat.lt_succ_self _) hW (lv_sub hl [1, 0] rfl)
          refine x_aload_n hx hb hl 0 rfl dX11_law_95 rfl ?_
          refine x_get (j := 11) (v := .int (xJ (s60 268 11))) hx hb hown hT hE hW cls_X11 (Or.inl (by decide)) (so_268 h0 g _) (by decide) rfl wq1196 dX11_law_96 ?_
          refine x_rd hW (fun x156 ex156 rx156 => ?_)
          rw [eQ]
          exact x_iret hx hb hr hlk hW rx156 ⟨hF70, ⟨q61, q62, q63, q66, q69, trivial⟩, by
              rw [← eZM]
              have z := v86_0.resolve_right (fun q => by omega)
              exact Or.inr ⟨hCN, by omega, Or.inl ⟨z.2.1, by omega, ⟨Q88.1, Q88.2.1, Q88.2.2.1, Q88.2.2.2.1, Q88.2.2.2.2, by omega⟩⟩⟩⟩ dX11_law_99
        refine x_if_eq (tgt := 86) hx hb ri2_46 dX11_law_47 (by decide) (fun c157 => ?_) (fun c157 => ?_)
        · skip
          exact J86 ls (v46_0.elim Or.inl (fun q => Or.inr ⟨q.1, q.2.fin (by omega)⟩))  (lv_sub hl [0, 1] rfl)
        refine x_aload_n hx hb hl 0 rfl dX11_law_50 rfl ?_
        refine x_get (j := 9) (v := .int (xJ (s_46 268 9))) hx hb hown hT hE hW cls_X11 (Or.inl (by decide)) (so_268 h0 g _) (by decide) rfl wq1194 dX11_law_51 ?_
        refine x_rd hW (fun x158 ex158 rx158 => ?_)
        have bx158 : 0 ≤ x158 ∧ x158 ≤ s_46 268 10 ∧ s_46 268 10 ≤ 240 := by rw [ex158]; exact q46_3
        have q159 : s_46 268 9 = x158 := ex158.symm
        have i246 : i2_46 = 1 := (v46_0.resolve_left (fun q => by omega)).1
        have hm_46 := fun (_ : Unit) => (show (242 - s_46 268 9).toNat < fu + 1 from by have hm := hm_46 (); rw [i246, Int.one_mul] at hm; exact hm)
        refine x_aload_n hx hb hl 0 rfl dX11_law_54 rfl ?_
        refine x_get (j := 10) (v := .int (xJ (s_46 268 10))) hx hb hown hT hE hW cls_X11 (Or.inl (by decide)) (so_268 h0 g _) (by decide) rfl wq1195 dX11_law_55 ?_
        refine x_rd hW (fun x160 ex160 rx160 => ?_)
        have fx160 : x160 = n := ex160.trans q46_7
        refine x_icmp_ge (tgt := 86) hx hb rx158 rx160 dX11_law_58 (by decide) (fun c161 => ?_) (fun c161 => ?_)
        · skip
          exact J86 ls (v46_0.elim Or.inl (fun q => Or.inr ⟨q.1, q.2.fin (by omega)⟩))  (lv_sub hl [0, 1] rfl)
        refine x_aload_n hx hb hl 0 rfl dX11_law_61 rfl ?_
        refine x_bipush hx hb dX11_law_62 (by decide) ?_
        refine x_goi (x_runV (As := [.int (xJ 59)]) hx hb hml hown hT hE hW hl.1 (Or.inl (by decide)) (so_268 h0 g _) rfl cf_X11_takes wq1405 wq108 wq1403 (c_X11_takesK l D g T h0 s_46 hW.2.1 59 (by decide) (by omega) q46_0 q46_1 q46_2 q46_3) ⟨rfl, rfl, ⟨by decide, by decide⟩, ⟨by decide, by decide⟩⟩ rfl rfl (Nat.le_of_ble_eq_true rfl) dX11_law_64) hW (fun x162 s163 H locs rx162 hp164 hW => ?_)
        obtain ⟨fs163, hp164⟩ := hp164
        have hF165 := hF_46.call fs163 (fun k h => by omega)
        have ghp164 := hp164.2
        have H64 := ghp164
        have C64 : zhC s_46 = zch (xm8 (s0 276)) n (s_46 268 9) := by rw [zhC_ch, hF_46 276 (by first | decide | omega), show s_46 268 10 = n from by omega]
        rw [C64] at H64
        have Q64 : s163 283 = s0 283 ∧ s163 284 = s0 284 ∧ s163 285 = s0 285 ∧ s163 286 = s0 286 ∧ s163 287 = s0 287 := ⟨(fs163 283 (by first | decide | omega)).trans v46_1.1, (fs163 284 (by first | decide | omega)).trans v46_1.2.1, (fs163 285 (by first | decide | omega)).trans v46_1.2.2.1, (fs163 286 (by first | decide | omega)).trans v46_1.2.2.2.1, (fs163 287 (by first | decide | omega)).trans v46_1.2.2.2.2⟩
        have W64 : x162 ≠ 0 → zLX (xm8 (s0 276)) n ZM true (s163 268 16) (s163 268 9) (s163 268 14) (s163 277) (s163 279) (s163 280) (s163 281) (s163 282) := fun hv => by
          have z := (v46_0.resolve_left (fun q => by omega)).2
          rw [show s163 268 16 = s_46 268 16 from by omega, show s163 268 14 = s_46 268 14 from by omega, fs163 277 (by first | decide | omega), fs163 279 (by first | decide | omega), fs163 280 (by first | decide | omega), fs163 281 (by first | decide | omega), fs163 282 (by first | decide | omega)]
          exact z.semi (by omega) (by omega)
        have W67 : x162 = 0 → ZM.1 ≠ 0 ∧ s163 268 11 = ZM.1 := fun hv => by
          have z := (v46_0.resolve_left (fun q => by omega)).2
          have y := z.bad (by omega) (by omega)
          have b := z.b
          omega
        have B64 : x162 ≠ 0 → s_46 268 9 ≤ s163 268 9 := fun h => by omega
        clear H64
        clear ghp164
        replace hp164 := And.intro hp164.1 trivial
        refine x_if_eq (tgt := 81) hx hb rx162 dX11_law_67 (by decide) (fun c166 => ?_) (fun c166 => ?_)
        · skip
          refine x_iconst hx hb dX11_law_81 ?_
          refine lv_istore_n (lv' := [(2, .int (xJ 0)), (0, .ref (h0 + 268))]) hx hb dX11_law_82 rfl hl (by decide) rfl (fun ls hl => ?_)
          refine lv_goto (tgt := 46) hx hb dX11_law_83 (by decide) ?_
          exact ih46 0 s163 H locs ls (by decide) hF165 hp164.1.1 hp164.1.2.1 hp164.1.2.2.1 hp164.1.2.2.2.1 (hp164.1.2.2.2.2.1.trans q46_4) (hp164.1.2.2.2.2.2.1.trans q46_5) (hp164.1.2.2.2.2.2.2.1.trans q46_6) (hp164.1.2.2.2.2.2.2.2.1.trans q46_7) (hp164.1.2.2.2.2.2.2.2.2.2.2.1.trans q46_8) (by first | exact Or.inl ⟨rfl, W67 (by omega)⟩ | exact Or.inl ⟨rfl, ((H71 ()).resolve_right (fun q => by omega)).2⟩ | exact Or.inr ⟨rfl, ((H71 ()).resolve_left (fun q => by omega)).2.1⟩) (by first | exact Q71 | exact Q64) (by have hm := hm_46 (); omega) hW (lv_sub hl [1, 0] rfl)
        refine x_aload_n hx hb hl 0 rfl dX11_law_70 rfl ?_
        refine x_goi (x_runV (As := []) hx hb hml hown hT hE hW hl.1 (Or.inl (by decide)) (so_268 h0 g _) rfl cf_X11_readsClause wq1465 wq115 wq1463 (c_X11_readsClauseK l D g T h0 s163 hW.2.1 (xm8 (s0 276)) n ZM (⟨by rw [hF165 276 (by first | decide | omega)], by omega⟩) (W64 (by omega)) hp164.1.1 hp164.1.2.1 hp164.1.2.2.1 hp164.1.2.2.2.1) ⟨rfl, rfl, ⟨by decide, by decide⟩, ⟨by decide, by decide⟩⟩ rfl rfl (Nat.le_of_ble_eq_true rfl) dX11_law_71) hW (fun x167 s168 H locs rx167 hp169 hW => ?_)
        obtain ⟨fs168, hp169⟩ := hp169
        have hF170 := hF165.call fs168 (fun k h => by omega)
        have ghp169 := hp169.2
        have H71 := fun (_ : Unit) => ghp169
        have B71 : x167 ≠ 0 → s_46 268 9 + 1 ≤ s168 268 9 := fun h => by
          have y := ((H71 ()).resolve_left (fun q => by omega)).2.2
          have z := B64 (by omega)
          omega
        clear ghp169
        replace hp169 := And.intro hp169.1 trivial
        have Q71 : s168 283 = s0 283 ∧ s168 284 = s0 284 ∧ s168 285 = s0 285 ∧ s168 286 = s0 286 ∧ s168 287 = s0 287 := ⟨(fs168 283 (by first | decide | omega)).trans Q64.1, (fs168 284 (by first | decide | omega)).trans Q64.2.1, (fs168 285 (by first | decide | omega)).trans Q64.2.2.1, (fs168 286 (by first | decide | omega)).trans Q64.2.2.2.1, (fs168 287 (by first | decide | omega)).trans Q64.2.2.2.2⟩
        refine x_if_eq (tgt := 81) hx hb rx167 dX11_law_74 (by decide) (fun c171 => ?_) (fun c171 => ?_)
        · skip
          refine x_iconst hx hb dX11_law_81 ?_
          refine lv_istore_n (lv' := [(2, .int (xJ 0)), (0, .ref (h0 + 268))]) hx hb dX11_law_82 rfl hl (by decide) rfl (fun ls hl => ?_)
          refine lv_goto (tgt := 46) hx hb dX11_law_83 (by decide) ?_
          exact ih46 0 s168 H locs ls (by decide) hF170 hp169.1.1 hp169.1.2.1 hp169.1.2.2.1 hp169.1.2.2.2.1 (hp169.1.2.2.2.2.1.trans (hp164.1.2.2.2.2.1.trans q46_4)) (hp169.1.2.2.2.2.2.1.trans (hp164.1.2.2.2.2.2.1.trans q46_5)) (hp169.1.2.2.2.2.2.2.1.trans (hp164.1.2.2.2.2.2.2.1.trans q46_6)) (hp169.1.2.2.2.2.2.2.2.1.trans (hp164.1.2.2.2.2.2.2.2.1.trans q46_7)) (hp169.1.2.2.2.2.2.2.2.2.1.trans (hp164.1.2.2.2.2.2.2.2.2.2.2.1.trans q46_8)) (by first | exact Or.inl ⟨rfl, W67 (by omega)⟩ | exact Or.inl ⟨rfl, ((H71 ()).resolve_right (fun q => by omega)).2⟩ | exact Or.inr ⟨rfl, ((H71 ()).resolve_left (fun q => by omega)).2.1⟩) (by first | exact Q71 | exact Q64) (by have hm := hm_46 (); omega) hW (lv_sub hl [1, 0] rfl)
        refine x_iconst hx hb dX11_law_77 ?_
        refine lv_goto (tgt := 82) hx hb dX11_law_78 (by decide) ?_
        refine lv_istore_n (lv' := [(2, .int (xJ 1)), (0, .ref (h0 + 268))]) hx hb dX11_law_82 rfl hl (by decide) rfl (fun ls hl => ?_)
        refine lv_goto (tgt := 46) hx hb dX11_law_83 (by decide) ?_
        exact ih46 1 s168 H locs ls (by decide) hF170 hp169.1.1 hp169.1.2.1 hp169.1.2.2.1 hp169.1.2.2.2.1 (hp169.1.2.2.2.2.1.trans (hp164.1.2.2.2.2.1.trans q46_4)) (hp169.1.2.2.2.2.2.1.trans (hp164.1.2.2.2.2.2.1.trans q46_5)) (hp169.1.2.2.2.2.2.2.1.trans (hp164.1.2.2.2.2.2.2.1.trans q46_6)) (hp169.1.2.2.2.2.2.2.2.1.trans (hp164.1.2.2.2.2.2.2.2.1.trans q46_7)) (hp169.1.2.2.2.2.2.2.2.2.1.trans (hp164.1.2.2.2.2.2.2.2.2.2.2.1.trans q46_8)) (by first | exact Or.inl ⟨rfl, W67 (by omega)⟩ | exact Or.inl ⟨rfl, ((H71 ()).resolve_right (fun q => by omega)).2⟩ | exact Or.inr ⟨rfl, ((H71 ()).resolve_left (fun q => by omega)).2.1⟩) (by first | exact Q71 | exact Q64) (by have hm := hm_46 (); omega) hW (lv_sub hl [1, 0] rfl)
    exact L46 ((x56 * (242 - s57 268 9) : Int).toNat + 1) x56 s57 H locs ls rx56 hF59 hp58.1.1 hp58.1.2.1 hp58.1.2.2.1 hp58.1.2.2.2.1 (hp58.1.2.2.2.2.1.trans q48) (hp58.1.2.2.2.2.2.1.trans q46) (hp58.1.2.2.2.2.2.2.1.trans q49) (hp58.1.2.2.2.2.2.2.2.1.trans q51) (hp58.1.2.2.2.2.2.2.2.2.1.trans q47) ((H42 ()).elim (fun q => Or.inl q) (fun q => Or.inr ⟨q.1, q.2.1⟩)) (Q42) (Nat.lt_succ_self _) hW (lv_sub hl [1, 0] rfl)
  refine x_iconst hx hb dX11_law_19 ?_
  rw [eQ]
  exact x_iret hx hb hr hlk hW (by decide) ⟨hF, ⟨p0, p1, p2, k268_58, k268_48, trivial⟩, Or.inl ⟨by omega, by omega, by omega, ⟨rfl, rfl, rfl, rfl, rfl, rfl⟩⟩⟩ dX11_law_20


/-! ===== how both sides stand to each other, the whole day ===== -/
def zQs (σ : xS) : zLaw := (σ 283, σ 284, σ 285, σ 286, σ 287, σ 268 17)
def zLx (σ : xS) : Prop := zLok (zQs σ) ∧ zLD σ (zQs σ)
def zLm (σ : xS) : Prop := ∀ i : Int, 0 ≤ i → i < 4 → σ 129 i = σ 273 i ∧ (σ 273 i = -1 ∨ (0 ≤ σ 273 i ∧ σ 273 i < 100))
def zBt (N : Int → Int) : Prop := (0 ≤ N 34 ∧ N 34 ≤ 3) ∧ (0 ≤ N 35 ∧ N 35 < 1024) ∧ (0 ≤ N 36 ∧ N 36 < 1024)
def zDd (σ : xS) (d N : Nat) : Prop := zYe (zYc σ d) (zYN (σ N) 0 0 0) ∧ zYq (zYN (σ N) 0 0 0) ∧ zJt (σ 4) (zrt (σ N)) ∧ zBt (σ N)
abbrev zWf (σ : xS) (S : Nat) : Int → Int → Int := fun j i => σ S (60 * j + i)
def zWk (σ : xS) (d M S : Nat) : Prop := zWc σ d (σ M) (zWf σ S)
def zKp (σ : xS) : Prop := σ 0 11 ≠ 0 → zDd σ 146 271 ∧ zWk σ 146 308 309
def zR9 (σ : xS) : Prop := zLx σ ∧ zLm σ ∧ (zDd σ 136 269 ∧ zWk σ 136 274 275 ∧ zB8 σ 275) ∧ (zB8 σ 309 ∧ zKp σ) ∧ IS σ ∧ IQ σ ∧ zSg σ ∧ σ 268 48 = -1
section R9
variable {σ τ : xS} {d N M S : Nat} {K Y Y2 Y3 : Int → Int} {q : zLaw} {a c s j f v : Int}
theorem zYe.tr (h : zYe Y Y2) (h2 : zYe Y2 Y3) : zYe Y Y3 := fun i a b c => (h i a b c).trans (h2 i a b c)
theorem zYe.rf : zYe Y Y := fun _ _ _ _ => rfl
theorem zLR_s (e : ∀ k : Nat, (283 ≤ k ∧ k ≤ 287) → τ k = σ k) (e17 : τ 268 17 = σ 268 17) : zLR τ (zQs σ) := ⟨e 283 (by omega), e 284 (by omega), e 285 (by omega), e 286 (by omega), e 287 (by omega), e17⟩
theorem zLx.ff (h : zLx σ) (e : ∀ k : Nat, ((109 ≤ k ∧ k ≤ 114) ∨ (283 ≤ k ∧ k ≤ 287)) → τ k = σ k) (e17 : τ 268 17 = σ 268 17) : zLx τ := by
  have q : zQs τ = zQs σ := by
    unfold zQs
    rw [e 283 (by omega), e 284 (by omega), e 285 (by omega), e 286 (by omega), e 287 (by omega), e17]
  exact ⟨by rw [q]; exact h.1, by rw [q]; exact h.2.f (fun k hk => e k (Or.inl hk))⟩
theorem zLm.ff (h : zLm σ) (e1 : τ 129 = σ 129) (e2 : τ 273 = σ 273) : zLm τ := by
  unfold zLm
  rw [e1, e2]
  exact h
theorem zDd.ff (h : zDd σ d N) (e : ∀ o : Nat, (o = 0 ∨ o = 1 ∨ (5 ≤ o ∧ o ≤ 9)) → τ (d + o) = σ (d + o)) (e4 : τ 4 = σ 4) (eN : ∀ q : Int, 0 ≤ q → q < 39 → τ N q = σ N q) : zDd τ d N := by
  obtain ⟨h1, h2, h3, h4⟩ := h
  refine ⟨?_, ?_, ?_, ?_⟩
  · rw [zYc_f e, zYN_cg eN]; exact h1
  · rw [zYN_cg eN]; exact h2
  · rw [e4, zrt_f (eN 0 (by decide) (by decide)) (eN 1 (by decide) (by decide)) (eN 2 (by decide) (by decide)) (eN 3 (by decide) (by decide)) (eN 34 (by decide) (by decide))]; exact h3
  · unfold zBt
    rw [eN 34 (by decide) (by decide), eN 35 (by decide) (by decide), eN 36 (by decide) (by decide)]
    exact h4
theorem zWk.ff (h : zWk σ d M S) (e2 : τ (d + 2) = σ (d + 2)) (eR : eRows σ τ) (eM : τ M = σ M) (eS : τ S = σ S) : zWk τ d M S := by
  unfold zWk zWf
  rw [eM, eS]
  exact h.f e2 eR
theorem zDd.qq (h : zDd σ d N) : zYq (zYc σ d) := h.1.yq h.2.1
theorem zDd.p4 (h : zDd σ d N) : zY4 (zYc σ d) = zrt (σ N) := by
  show (zYc σ d 0, zYc σ d 1, zYc σ d 2, zYc σ d 3) = (zYN (σ N) 0 0 0 0, zYN (σ N) 0 0 0 1, zYN (σ N) 0 0 0 2, zYN (σ N) 0 0 0 3)
  rw [h.1 0 (by decide) (by decide) (by decide), h.1 1 (by decide) (by decide) (by decide), h.1 2 (by decide) (by decide) (by decide), h.1 3 (by decide) (by decide) (by decide)]
theorem zDd.ok4 (h : zDd σ d N) (hn : okN σ N) : zok (zY4 (zYc σ d)) := by rw [h.p4]; exact zok_N hn
/-- as p5's word says it -/
theorem zDd.jd (h : zDd σ d N) (hw : zWk σ d M S) (h8 : zB8 σ S) : zJD σ d N M S := ⟨by rw [zt_Y]; exact h.p4, h.2.2.2.1, hw, h8⟩
/-- a day told anew on both sides -/
theorem zDd.up {Z Z2 : Int → Int} (hc : zYc τ d = Z) (hr : zYN (τ N) 0 0 0 = Z2) (he : zYe Z Z2) (hq : zYq Z2) (hg : zJt (τ 4) (zY4 Z2)) (hb : zBt (τ N)) : zDd τ d N := by
  subst hc; subst hr
  exact ⟨he, hq, hg, hb⟩
theorem zDd.mn {lm n : Int → Int} {w : Int → Int → Int} {k : Nat} (h : zDd σ 136 269) (hc : zYc τ 136 = zmn (σ 4) q lm n w (-1) k (zYc σ 136)) (hr : zYN (τ 269) a c s = zmn (σ 4) q lm n w (-1) k (zYN (σ 269) 0 0 0)) (e4 : τ 4 = σ 4) (b34 : τ 269 34 = σ 269 34) (b35 : τ 269 35 = σ 269 35) (b36 : 0 ≤ τ 269 36 ∧ τ 269 36 < 1024) : zDd τ 136 269 := by
  obtain ⟨h1, h2, h3, h4⟩ := h
  have z := h1.mn (K := σ 4) (q := q) (lm := lm) (n := n) (w := w) (ah := -1) k
  have y := zmn_q (K := σ 4) (q := q) (lm := lm) (n := n) (w := w) (ah := -1) h2 k
  have g := zmn_g (K := σ 4) (q := q) (lm := lm) (n := n) (w := w) (ah := -1) (Y := zYN (σ 269) 0 0 0) h3 k
  rw [← hc, ← hr] at z
  rw [← hr] at y g
  exact ⟨z.tr zYN_e0, zYN_q y, by rw [e4]; exact g, by unfold zBt; rw [b34, b35]; exact ⟨h4.1, h4.2.1, b36⟩⟩
theorem zYN_o34 {N : Int → Int} (hj : 0 ≤ j ∧ j < 2) (h34 : 0 ≤ N 34 ∧ N 34 ≤ 3) : zYN (xud (xud N 34 (zor (N 34) j)) j v) a c s = xud (zYN N a c s) j v := by
  have b := zor_b h34 hj
  have t : xsh (zor (N 34) j) j % 2 = 1 := by
    rcases (by omega : j = 0 ∨ j = 1) with rfl | rfl
    · rw [b.2.1]; rfl
    · rw [b.2.2]; rfl
  have e1 : xud N 34 (zor (N 34) j) 34 = zor (N 34) j := xud_s _ _ _
  rw [zYN_uJ hj (by rw [e1]; exact t)]
  funext i
  by_cases e : i = j
  · rw [e, xud_s, xud_s]
  · rw [xud_o _ _ e, xud_o _ _ e]
    by_cases h : 0 ≤ i ∧ i < 2
    · rw [zYN_J h, zYN_J h]
      unfold zrj
      rw [e1, xud_o _ _ (show i ≠ 34 from by omega)]
      rcases (by omega : j = 0 ∨ j = 1) with rfl | rfl
      · have i1 : i = 1 := by omega
        subst i1
        rw [b.2.2]; rfl
      · have i0 : i = 0 := by omega
        subst i0
        rw [b.2.1]; rfl
    · exact zYN_34 (fun i hi => xud_o _ _ hi) (by omega)
theorem zYN_uS {N : Int → Int} (hj : 0 ≤ j ∧ j < 2) : zYN (xud N (2 + j) v) a c s = xud (zYN N a c s) (2 + j) v := zYN_c (fun i hi => zYN_u (by omega) (fun _ => hi) (by omega) (by omega)) (by rw [zYN_S (by omega), xud_s])
theorem zYe.u (h : zYe Y Y2) {i v : Int} : zYe (xud Y i v) (xud Y2 i v) := fun k a b c => zud_c (fun _ => h k a b c)
theorem zYq_f {x w : Int} (h : zYq Y) (hf : 0 ≤ f ∧ f < 10) (hx : 0 ≤ x ∧ x < 100) (hw : 0 ≤ w ∧ w ≤ 999) : zYq (xud (xud (xud (xud Y (4 + f) x) (14 + f) w) (24 + f) 0) (34 + f) 0) := fun g g1 g2 => by
  have z := h g g1 g2
  by_cases e : g = f
  · subst e
    rw [xud_o _ _ (show 4 + g ≠ 34 + g from by omega), xud_o _ _ (show 4 + g ≠ 24 + g from by omega), xud_o _ _ (show 4 + g ≠ 14 + g from by omega), xud_s, xud_o _ _ (show 14 + g ≠ 34 + g from by omega), xud_o _ _ (show 14 + g ≠ 24 + g from by omega), xud_s, xud_o _ _ (show 24 + g ≠ 34 + g from by omega), xud_s, xud_s]
    exact ⟨Or.inr hx, hw, by omega, Or.inl rfl⟩
  · rw [xud_o _ _ (show 4 + g ≠ 34 + f from by omega), xud_o _ _ (show 4 + g ≠ 24 + f from by omega), xud_o _ _ (show 4 + g ≠ 14 + f from by omega), xud_o _ _ (show 4 + g ≠ 4 + f from by omega), xud_o _ _ (show 14 + g ≠ 34 + f from by omega), xud_o _ _ (show 14 + g ≠ 24 + f from by omega), xud_o _ _ (show 14 + g ≠ 14 + f from by omega), xud_o _ _ (show 14 + g ≠ 4 + f from by omega), xud_o _ _ (show 24 + g ≠ 34 + f from by omega), xud_o _ _ (show 24 + g ≠ 24 + f from by omega), xud_o _ _ (show 24 + g ≠ 14 + f from by omega), xud_o _ _ (show 24 + g ≠ 4 + f from by omega), xud_o _ _ (show 34 + g ≠ 34 + f from by omega), xud_o _ _ (show 34 + g ≠ 24 + f from by omega), xud_o _ _ (show 34 + g ≠ 14 + f from by omega), xud_o _ _ (show 34 + g ≠ 4 + f from by omega)]
    exact z
theorem zDd.felon {x w : Int} (h : zDd σ 136 269) (hf : 0 ≤ f ∧ f < 10) (hx : 0 ≤ x ∧ x < 100) (hw : 0 ≤ w ∧ w ≤ 999) (hc : zYc τ 136 = xud (xud (xud (xud (zYc σ 136) (4 + f) x) (14 + f) w) (24 + f) 0) (34 + f) 0) (hr : zYN (τ 269) 0 0 0 = xud (xud (xud (xud (zYN (σ 269) 0 0 0) (4 + f) x) (14 + f) w) (24 + f) 0) (34 + f) 0) (e4 : τ 4 = σ 4) (hb : zBt (τ 269)) : zDd τ 136 269 :=
  zDd.up hc hr h.1.u.u.u.u (zYq_f h.2.1 hf hx hw) (by rw [e4, zY4_x (by omega), zY4_x (by omega), zY4_x (by omega), zY4_x (by omega)]; exact h.2.2.1) hb
theorem zDd.seed {x : Int} (h : zDd σ 136 269) (hc : zYc τ 136 = xud (zYc σ 136) 45 x) (hr : τ 269 = xud (σ 269) 38 x) (e4 : τ 4 = σ 4) : zDd τ 136 269 := by
  refine zDd.up hc (Z2 := xud (zYN (σ 269) 0 0 0) 45 x) (by rw [hr]; exact zYN_u38) h.1.u (zYq_x h.2.1 (by omega)) (by rw [e4, zY4_x (by decide)]; exact h.2.2.1) ?_
  unfold zBt
  rw [hr, xud_o _ _ (by decide), xud_o _ _ (by decide), xud_o _ _ (by decide)]
  exact h.2.2.2
theorem zDd.judge {x : Int} (h : zDd σ 136 269) (hj : 0 ≤ j ∧ j < 2) (hk : σ 4 x ≠ 1 ∧ σ 4 x ≠ 3) (hx : 0 ≤ x) (ho : zrj (σ 269) (1 - j) ≠ x) (hc : zYc τ 136 = xud (zYc σ 136) j x) (hr : τ 269 = xud (xud (σ 269) 34 (zor (σ 269 34) j)) j x) (e4 : τ 4 = σ 4) : zDd τ 136 269 := by
  obtain ⟨h1, h2, h3, h4⟩ := h
  refine zDd.up hc (Z2 := xud (zYN (σ 269) 0 0 0) j x) (by rw [hr]; exact zYN_o34 hj h4.1) h1.u (zYq_x h2 (by omega)) ?_ ?_
  · rw [e4]
    obtain ⟨g1, g2, g3⟩ := h3
    rcases (by omega : j = 0 ∨ j = 1) with rfl | rfl
    · exact ⟨Or.inr hk, g2, Or.inl (fun q => ho q.symm)⟩
    · refine ⟨g1, Or.inr hk, ?_⟩
      show zrj (σ 269) 0 ≠ x ∨ _
      exact Or.inl ho
  · unfold zBt
    rw [hr, xud_o _ _ (show (34 : Int) ≠ j from by omega), xud_s, xud_o _ _ (show (35 : Int) ≠ j from by omega), xud_o _ _ (show (35 : Int) ≠ 34 from by decide), xud_o _ _ (show (36 : Int) ≠ j from by omega), xud_o _ _ (show (36 : Int) ≠ 34 from by decide)]
    exact ⟨(zor_b h4.1 hj).1, h4.2⟩
theorem zYc_w {σ τ : xS} {d : Nat} (e : ∀ o : Nat, (o = 0 ∨ o = 1 ∨ (6 ≤ o ∧ o ≤ 9)) → τ (d + o) = σ (d + o)) (e5 : τ (d + 5) = xud (σ (d + 5)) j v) (hj : 0 ≤ j ∧ j < 2) : zYc τ d = xud (zYc σ d) (2 + j) v := by
  rw [← zYc_uS (σ := σ) (d := d) hj]
  refine zYc_f (fun o ho => ?_)
  by_cases h : o = 5
  · subst h; rw [e5]; exact (xU_xud _ _ _ _).symm
  · rw [e o (by omega), xU_k _ _ _ (by omega)]
theorem zDd.walk (h : zDd σ 136 269) (hj : 0 ≤ j ∧ j < 2) (e : ∀ o : Nat, (o = 0 ∨ o = 1 ∨ (6 ≤ o ∧ o ≤ 9)) → τ (136 + o) = σ (136 + o)) (e5 : τ 141 = xud (σ 141) j 0) (hr : τ 269 = xud (σ 269) (2 + j) 0) (e4 : τ 4 = σ 4) : zDd τ 136 269 := by
  obtain ⟨h1, h2, h3, h4⟩ := h
  refine zDd.up (zYc_w e e5 hj) (Z2 := xud (zYN (σ 269) 0 0 0) (2 + j) 0) (by rw [hr]; exact zYN_uS hj) h1.u (zYq_x h2 (by omega)) ?_ ?_
  · rw [e4]
    obtain ⟨g1, g2, g3⟩ := h3
    rcases (by omega : j = 0 ∨ j = 1) with rfl | rfl
    · exact ⟨g1, g2, g3⟩
    · exact ⟨g1, g2, g3⟩
  · unfold zBt
    rw [hr, xud_o _ _ (by omega), xud_o _ _ (by omega), xud_o _ _ (by omega)]
    exact h4
/-! the market -/
theorem zoq_r {x : Int} (h : x = -1 ∨ (0 ≤ x ∧ x < 100)) : zoq K x = -1 ∨ (0 ≤ zoq K x ∧ zoq K x < 100) := by
  rcases zoq_c (K := K) (s := x) with e | e <;> omega
theorem zoq_g {x : Int} : zoq K x = -1 ∨ (K (zoq K x) ≠ 1 ∧ K (zoq K x) ≠ 3) := by
  by_cases c : 0 ≤ x ∧ x < 100 ∧ K x ≠ 1 ∧ K x ≠ 3
  · rw [zoq_y c]; exact Or.inr c.2.2
  · rw [zoq_n c]; exact Or.inl rfl
theorem zYe.MP (h : zYe Y Y2) : zYe (zMP K Y 2 10) (zMP K Y2 2 10) := fun i h1 h2 h3 => by
  unfold zMP zMx
  have e := h i h1 h2 h3
  have e4 : 4 ≤ i → i < 44 → Y (4 + (i - 4) % 10) = Y2 (4 + (i - 4) % 10) := fun a b => h _ (by omega) (by omega) (by omega)
  by_cases c : 0 ≤ i ∧ i < 2 ∧ i < 2
  · rw [if_pos c, if_pos c, e]
  · rw [if_neg c, if_neg c]
    by_cases c2 : 4 ≤ i ∧ i < 44 ∧ (i - 4) % 10 < 10
    · rw [if_pos c2, if_pos c2, e, e4 c2.1 c2.2.1]
    · rw [if_neg c2, if_neg c2, e]
theorem zMP_q (h : zYq Y) : zYq (zMP K Y 2 10) := fun g g1 g2 => by
  have z := h g g1 g2
  rw [zMP_p (i := 4 + g) (by omega) (by omega), zMP_p (i := 14 + g) (by omega) (by omega), zMP_p (i := 24 + g) (by omega) (by omega), zMP_p (i := 34 + g) (by omega) (by omega), zMx_4 ⟨g1, g2⟩, zMx_k (i := 14 + g) (f := g) (by omega) (by omega), zMx_k (i := 24 + g) (f := g) (by omega) (by omega), zMx_k (i := 34 + g) (f := g) (by omega) (by omega)]
  refine ⟨zoq_r z.1, ?_, ?_, ?_⟩
  · split <;> omega
  · split <;> omega
  · split
    · exact Or.inl rfl
    · exact z.2.2.2
theorem zMP_g (h : Y 0 ≠ Y 1 ∨ Y 0 = -1) : zJt K (zY4 (zMP K Y 2 10)) := by
  have e0 : zMP K Y 2 10 0 = zoq K (Y 0) := if_pos (by decide)
  have e1 : zMP K Y 2 10 1 = zoq K (Y 1) := if_pos (by decide)
  refine ⟨?_, ?_, ?_⟩
  · show zMP K Y 2 10 0 = -1 ∨ (K (zMP K Y 2 10 0) ≠ 1 ∧ K (zMP K Y 2 10 0) ≠ 3)
    rw [e0]; exact zoq_g
  · show zMP K Y 2 10 1 = -1 ∨ (K (zMP K Y 2 10 1) ≠ 1 ∧ K (zMP K Y 2 10 1) ≠ 3)
    rw [e1]; exact zoq_g
  · show zMP K Y 2 10 0 ≠ zMP K Y 2 10 1 ∨ zMP K Y 2 10 0 = -1
    rw [e0, e1]
    rcases zoq_c (K := K) (s := Y 0) with a | a <;> rcases zoq_c (K := K) (s := Y 1) with b | b <;> omega
theorem zDd.market {Z : Int → Int} (h : zDd σ 136 269) (hc : zYc τ 136 = zMP (τ 4) (zYc σ 136) 2 10) (hr : zYN (τ 269) 0 0 0 = zMP (zkg Z) (zYN (σ 269) 0 0 0) 2 10) (hk : ∀ t : Int, 0 ≤ t → t < 100 → τ 4 t = Z t ∧ 0 ≤ Z t ∧ Z t ≤ 3) (hb : zBt (τ 269)) : zDd τ 136 269 := by
  obtain ⟨h1, h2, h3, h4⟩ := h
  have e : zMP (zkg Z) (zYN (σ 269) 0 0 0) 2 10 = zMP (τ 4) (zYN (σ 269) 0 0 0) 2 10 := zMP_K (fun t t1 t2 => by
    have a := zkg_K (K := Z) (fun t t1 t2 => (hk t t1 t2).2) t t1 t2
    rw [(hk t t1 t2).1]
    exact a)
  rw [e] at hr
  exact zDd.up hc hr h1.MP (zMP_q h2) (zMP_g h3.2.2) hb
theorem zLm.market {Z : Int → Int} (h : zLm σ) (hc : ∀ i : Int, 0 ≤ i → i < 4 → τ 129 i = zoq (τ 4) (σ 129 i)) (hr : ∀ i : Int, 0 ≤ i → i < 4 → τ 273 i = zoq (zkg Z) (σ 273 i)) (hk : ∀ t : Int, 0 ≤ t → t < 100 → τ 4 t = Z t ∧ 0 ≤ Z t ∧ Z t ≤ 3) : zLm τ := fun i i1 i2 => by
  have z := h i i1 i2
  have e : zoq (zkg Z) (σ 273 i) = zoq (τ 4) (σ 273 i) := zoq_K (fun t t1 t2 => by
    have a := zkg_K (K := Z) (fun t t1 t2 => (hk t t1 t2).2) t t1 t2
    rw [(hk t t1 t2).1]
    exact a)
  rw [hc i i1 i2, hr i i1 i2, e, z.1]
  exact ⟨rfl, zoq_r z.2⟩
theorem zLm.lamp {i x : Int} (h : zLm σ) (hc : τ 129 = xud (σ 129) i x) (hr : τ 273 = xud (σ 273) i x) (hx : x = -1 ∨ (0 ≤ x ∧ x < 100)) : zLm τ := fun k k1 k2 => by
  rw [hc, hr]
  by_cases e : k = i
  · rw [e, xud_s, xud_s]; exact ⟨rfl, hx⟩
  · rw [xud_o _ _ e, xud_o _ _ e]; exact h k k1 k2
/-! the law -/
theorem zKR.cg {o v2 kd wa ak C L A B T C2 L2 A2 B2 T2 : Int → Int} {M c : Int} (h : zKR o v2 kd wa ak C L A B T M c) (hC : ∀ k : Int, 0 ≤ k → k < c → C2 k = C k) (hq : ∀ q : Int, 0 ≤ q → q < M → L2 q = L q ∧ A2 q = A q ∧ B2 q = B q ∧ T2 q = T q) : zKR o v2 kd wa ak C2 L2 A2 B2 T2 M c := fun q q1 q2 => by
  have z := h q q1 q2
  have e := hq q q1 q2
  rw [e.1, e.2.1, e.2.2.1, e.2.2.2]
  refine ⟨z.1, z.2.1, ⟨fun k k1 k2 => ?_, z.2.2.1.2⟩, fun k k1 k2 => ?_, z.2.2.2.2⟩
  · rw [hC k (by omega) (by omega)]; exact z.2.2.1.1 k k1 k2
  · rw [hC k (by omega) (by omega)]; exact z.2.2.2.1 k k1 k2
theorem zLok_new {f C0 L0 A0 B0 T0 C L A B T C2 L2 A2 B2 T2 : Int → Int} {n M c : Int} (hn : 0 ≤ n ∧ n ≤ 240) (e : zL0 f n C0 L0 A0 B0 T0 = (0, M, c, C, L, A, B, T)) (hC : ∀ k : Int, 0 ≤ k → k < c → C2 k = C k) (hq : ∀ q : Int, 0 ≤ q → q < M → L2 q = L q ∧ A2 q = A q ∧ B2 q = B q ∧ T2 q = T q) : zLok (C2, L2, A2, B2, T2, M) := by
  obtain ⟨hs, hc0, hc1, hM0, hM1⟩ := zL0_wf hn e
  have hb := zL0_bl hn e
  refine ⟨⟨hM0, hM1⟩, fun i i1 i2 => ?_⟩
  have i2 : i < M := i2
  have s := hs i i1 i2
  have b := hb i i1 i2
  have g := hq i i1 i2
  show (L2 i ≠ 110 → ∃ d, zGD C2 (A2 i) (B2 i) false d) ∧ ∃ d, zGD C2 (B2 i) (T2 i) true d
  rw [g.1, g.2.1, g.2.2.1, g.2.2.2]
  refine ⟨fun hl => ?_, ?_⟩
  · have sg := (s.2.1.resolve_left (fun z => hl z.1)).2
    have cC : ∀ k, A i ≤ k → k < B i → C2 k = C k := fun k k1 k2 => hC k (by omega) (by omega)
    have lo : ∀ k, A i ≤ k → k < B i → C2 k < 10485760 := fun k k1 k2 => by rw [cC k k1 k2]; exact b.2.1 k k1 k2
    exact (sg.cp cC).gd ⟨fun k k1 k2 k3 => absurd (lo k k1 k2) (by omega), fun k k1 k2 k3 => absurd (lo k k1 k2) (by omega), fun q => by cases q⟩ (fun k k1 k2 k3 => absurd (lo k k1 k2) (by omega))
  · have cC : ∀ k, B i ≤ k → k < T i → C2 k = C k := fun k k1 k2 => hC k (by omega) (by omega)
    have bc := b.2.2.cp b.1.2 cC
    exact (s.2.2.cp cC).gd bc.1 bc.2
theorem zLx.new {f C0 L0 A0 B0 T0 C L A B T : Int → Int} {n M c : Int} (hn : 0 ≤ n ∧ n ≤ 240) (e : zL0 f n C0 L0 A0 B0 T0 = (0, M, c, C, L, A, B, T)) (h6 : τ 109 6 = M) (h2 : τ 109 2 = c + 2 * M) (hk : zKR (τ 110) (τ 111) (τ 112) (τ 113) (τ 114) C L A B T M c) (h17 : τ 268 17 = M) (hC : ∀ k : Int, 0 ≤ k → k < c → τ 283 k = C k) (hq : ∀ q : Int, 0 ≤ q → q < M → τ 284 q = L q ∧ τ 285 q = A q ∧ τ 286 q = B q ∧ τ 287 q = T q) : zLx τ := by
  unfold zLx zQs
  rw [h17]
  exact ⟨zLok_new hn e hC hq, h6, c, h2, hk.cg hC hq⟩
/-! what is answered -/
theorem zDd.y0 (h : zDd σ d N) : zY0 (zYc σ d) = zYN (σ N) 0 0 0 := funext fun i => by
  unfold zY0
  by_cases e3 : i = 48
  · rw [e3, xud_s]; exact zYN_48.symm
  rw [xud_o _ _ e3]
  by_cases e2 : i = 47
  · rw [e2, xud_s]; exact zYN_47.symm
  rw [xud_o _ _ e2]
  by_cases e1 : i = 46
  · rw [e1, xud_s]; exact zYN_46.symm
  rw [xud_o _ _ e1]
  exact h.1 i e1 e2 e3
end R9

