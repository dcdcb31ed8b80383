set_option maxHeartbeats 4000000 in
set_option maxRecDepth 100000 in
theorem c_X11_walkJ (l : Launch) (D : va_G) (g : xG) (T : Nat × Nat × Nat) (h0 : Nat) (s0 : xS) (hσ : xRR s0) (j : Int) (rj : xR j) (n : Int) (rn : xR n) (p0 : IMn s0) (p1 : IMk s0) (p2 : IMo s0) : Met l yX11_walk (xws yX11_walk cX11_walk 5 (some .int)) { frames := 3, cells := 0, slots := 0, locals := 70 } (xP [.ref (h0 + 268), .int (xJ j), .int (xJ n)] D g T h0 s0) (xQi D g h0 (fun r τ => xFr (fun k => k = 268 ∨ k = 269 ∨ k = 274 ∨ k = 275 ∨ k = 289 ∨ k = 290 ∨ k = 291 ∨ k = 292) s0 τ ∧ (((IMn τ) ∧ (IMk τ) ∧ (IMo τ) ∧ (τ 268 58 = s0 268 58) ∧ (τ 268 17 = s0 268 17) ∧ (τ 268 48 = s0 268 48) ∧ True) ∧ (((j < 0 ∨ 1 < j ∨ n < 1 ∨ 80 < n ∨ s0 268 8 < n) ∧ τ 268 8 = s0 268 8 ∧ r = -1 ∧ τ 269 = s0 269 ∧ τ 274 = s0 274 ∧ τ 275 = s0 275) ∨ (¬ (j < 0 ∨ 1 < j ∨ n < 1 ∨ 80 < n ∨ s0 268 8 < n) ∧ τ 268 8 = 0 ∧ (((zws (xm8 (s0 276)) n 1 (2 * n + 1).toNat true 0 0 (fun _ => 0) []).1 ≠ 0 ∧ r = (zws (xm8 (s0 276)) n 1 (2 * n + 1).toNat true 0 0 (fun _ => 0) []).1 ∧ τ 269 = s0 269 ∧ τ 274 = s0 274 ∧ τ 275 = s0 275) ∨ ((zws (xm8 (s0 276)) n 1 (2 * n + 1).toNat true 0 0 (fun _ => 0) []).1 = 0 ∧ r = (zws (xm8 (s0 276)) n 1 (2 * n + 1).toNat true 0 0 (fun _ => 0) []).2.1 ∧ τ 274 = xud (s0 274) j (zws (xm8 (s0 276)) n 1 (2 * n + 1).toNat true 0 0 (fun _ => 0) []).2.1 ∧ τ 269 = xud (s0 269) (2 + j) 0 ∧ zCu 2 (zws (xm8 (s0 276)) n 1 (2 * n + 1).toNat true 0 0 (fun _ => 0) []).2.1 (zws (xm8 (s0 276)) n 1 (2 * n + 1).toNat true 0 0 (fun _ => 0) []).2.2 (fun i => τ 275 (60 * j + i)) ∧ (∀ i : Int, (i < 60 * j ∨ 60 * j + 60 ≤ i) → τ 275 i = s0 275 i) ∧ ((∀ i : Int, 0 ≤ i → i < 120 → 0 ≤ s0 275 i ∧ s0 275 i ≤ 8) → ∀ i : Int, 0 ≤ i → i < 120 → 0 ≤ τ 275 i ∧ τ 275 i ≤ 8)))))))) 0 0 (xA h0) := by
  refine x_met hσ (by decide) (Nat.le_of_ble_eq_true rfl) ?_
  intro p e s m args below meth c hx hb hr hml hown hT hlk hnm hE hW ls hl
  have hl : lv_has ls 5 [(0, .ref (h0 + 268)), (1, .int (xJ j)), (2, .int (xJ n))] := hl
  obtain ⟨Q, eQ⟩ : ∃ Q, Q = MQ below (xQi D g h0 (fun r τ => xFr (fun k => k = 268 ∨ k = 269 ∨ k = 274 ∨ k = 275 ∨ k = 289 ∨ k = 290 ∨ k = 291 ∨ k = 292) s0 τ ∧ (((IMn τ) ∧ (IMk τ) ∧ (IMo τ) ∧ (τ 268 58 = s0 268 58) ∧ (τ 268 17 = s0 268 17) ∧ (τ 268 48 = s0 268 48) ∧ True) ∧ (((j < 0 ∨ 1 < j ∨ n < 1 ∨ 80 < n ∨ s0 268 8 < n) ∧ τ 268 8 = s0 268 8 ∧ r = -1 ∧ τ 269 = s0 269 ∧ τ 274 = s0 274 ∧ τ 275 = s0 275) ∨ (¬ (j < 0 ∨ 1 < j ∨ n < 1 ∨ 80 < n ∨ s0 268 8 < n) ∧ τ 268 8 = 0 ∧ (((zws (xm8 (s0 276)) n 1 (2 * n + 1).toNat true 0 0 (fun _ => 0) []).1 ≠ 0 ∧ r = (zws (xm8 (s0 276)) n 1 (2 * n + 1).toNat true 0 0 (fun _ => 0) []).1 ∧ τ 269 = s0 269 ∧ τ 274 = s0 274 ∧ τ 275 = s0 275) ∨ ((zws (xm8 (s0 276)) n 1 (2 * n + 1).toNat true 0 0 (fun _ => 0) []).1 = 0 ∧ r = (zws (xm8 (s0 276)) n 1 (2 * n + 1).toNat true 0 0 (fun _ => 0) []).2.1 ∧ τ 274 = xud (s0 274) j (zws (xm8 (s0 276)) n 1 (2 * n + 1).toNat true 0 0 (fun _ => 0) []).2.1 ∧ τ 269 = xud (s0 269) (2 + j) 0 ∧ zCu 2 (zws (xm8 (s0 276)) n 1 (2 * n + 1).toNat true 0 0 (fun _ => 0) []).2.1 (zws (xm8 (s0 276)) n 1 (2 * n + 1).toNat true 0 0 (fun _ => 0) []).2.2 (fun i => τ 275 (60 * j + i)) ∧ (∀ i : Int, (i < 60 * j ∨ 60 * j + 60 ≤ i) → τ 275 i = s0 275 i) ∧ ((∀ i : Int, 0 ≤ i → i < 120 → 0 ≤ s0 275 i ∧ s0 275 i ≤ 8) → ∀ i : Int, 0 ≤ i → i < 120 → 0 ≤ τ 275 i ∧ τ 275 i ≤ 8)))))))) args s 0 0 (xA h0) := ⟨_, rfl⟩
  rw [← eQ]
  generalize hHe : ([] : List Loc) = locs at hW ⊢
  obtain ⟨H, eH⟩ : ∃ H, H = s.heap := ⟨_, rfl⟩
  rw [← eH] at hW ⊢
  have hF : xFr (fun k => k = 268 ∨ k = 269 ∨ k = 274 ∨ k = 275 ∨ k = 289 ∨ k = 290 ∨ k = 291 ∨ k = 292) s0 s0 := xFr.rf
  have k268_58 : s0 268 58 = s0 268 58 := rfl
  have k268_17 : s0 268 17 = s0 268 17 := rfl
  have k268_48 : s0 268 48 = s0 268 48 := rfl
  have k268_8 : s0 268 8 = s0 268 8 := rfl
  obtain ⟨Z9, eZ9⟩ : ∃ Z, Z = (zws (xm8 (s0 276)) n 1 (2 * n + 1).toNat true 0 0 (fun _ => 0) []) := ⟨_, rfl⟩
  refine x_iload_n hx hb hl 1 rfl dX11_walk_0 rfl ?_
  refine x_iconst hx hb dX11_walk_1 ?_
  refine x_goi (x_runS (As := [.int (xJ j), .int (xJ 2)]) hx hb hml hown hT hE hW hl.1 cf_X11_isFive wq1412 wq1411 (c_X11_isFive l D g T h0 s0 hW.2.1 j rj 2 (by decide)) ⟨rfl, rfl, ⟨by decide, by decide⟩, ⟨by decide, by decide⟩⟩ rfl rfl (Nat.le_of_ble_eq_true rfl) dX11_walk_2) hW (fun x1 s2 H locs rx1 hp3 hW => ?_)
  obtain ⟨es2, hp3⟩ := hp3
  subst es2
  have ghp3 := hp3
  refine x_if_eq (tgt := 26) hx hb rx1 dX11_walk_5 (by decide) (fun c4 => ?_) (fun c4 => ?_)
  · skip
    refine x_iconst hx hb dX11_walk_26 ?_
    rw [eQ]
    exact x_iret hx hb hr hlk hW (by decide) ⟨hF, ⟨p0, p1, p2, k268_58, k268_17, k268_48, trivial⟩, Or.inl ⟨by omega, by omega, by omega, rfl, rfl, rfl⟩⟩ dX11_walk_27
  refine x_iload_n hx hb hl 2 rfl dX11_walk_8 rfl ?_
  refine x_iconst hx hb dX11_walk_9 ?_
  refine x_bipush hx hb dX11_walk_10 (by decide) ?_
  refine x_goi (x_runS (As := [.int (xJ n), .int (xJ 1), .int (xJ 80)]) hx hb hml hown hT hE hW hl.1 cf_X11_in wq1383 wq1382 (c_X11_in l D g T h0 s0 hW.2.1 n rn 1 (by decide) 80 (by decide)) ⟨rfl, rfl, ⟨by decide, by decide⟩, ⟨by decide, by decide⟩⟩ rfl rfl (Nat.le_of_ble_eq_true rfl) dX11_walk_12) hW (fun x5 s6 H locs rx5 hp7 hW => ?_)
  obtain ⟨es6, hp7⟩ := hp7
  subst es6
  have ghp7 := hp7
  refine x_if_eq (tgt := 26) hx hb rx5 dX11_walk_15 (by decide) (fun c8 => ?_) (fun c8 => ?_)
  · skip
    refine x_iconst hx hb dX11_walk_26 ?_
    rw [eQ]
    exact x_iret hx hb hr hlk hW (by decide) ⟨hF, ⟨p0, p1, p2, k268_58, k268_17, k268_48, trivial⟩, Or.inl ⟨by omega, by omega, by omega, rfl, rfl, rfl⟩⟩ dX11_walk_27
  refine x_iload_n hx hb hl 2 rfl dX11_walk_18 rfl ?_
  refine x_aload_n hx hb hl 0 rfl dX11_walk_19 rfl ?_
  refine x_get (j := 8) (v := .int (xJ (s0 268 8))) hx hb hown hT hE hW cls_X11 (Or.inl (by decide)) (so_268 h0 g _) (by decide) rfl wq1193 dX11_walk_20 ?_
  refine x_rd hW (fun x9 ex9 rx9 => ?_)
  have bx9 : 0 ≤ x9 ∧ x9 ≤ 260 := by rw [ex9]; exact IMn.t p0
  have fx9 : x9 = s0 268 8 := ex9.trans k268_8
  refine x_icmp_le (tgt := 28) hx hb rn rx9 dX11_walk_23 (by decide) (fun c10 => ?_) (fun c10 => ?_)
  · skip
    refine x_aload_n hx hb hl 0 rfl dX11_walk_28 rfl ?_
    refine x_iconst hx hb dX11_walk_29 ?_
    refine x_put (j := 9) hx hb hown hT hE hW cls_X11 (by decide) (fun σ => so_268 h0 g σ) (by decide) (st_X11_9 h0 s0 268 0) (ln_X11_9 h0 _ _) wq1194 rfl rfl rfl (by decide) dX11_walk_30 (fun H locs s11 es11 hW => ?_)
    have q12 : IMn s11 := by rw [es11]; exact IMn_268 p0 (by omega)
    have q13 : IMk s11 := by rw [es11]; exact IMk_268 p1 (by omega)
    have q14 : IMo s11 := by rw [es11]; exact IMo_o (by unfold suIMo; first | decide | omega) p2
    have q15 : s11 268 58 = s0 268 58 := (show s11 268 58 = s0 268 58 from by rw [es11, xU_j _ _ (by decide)]).trans k268_58
    have q16 : s11 268 17 = s0 268 17 := (show s11 268 17 = s0 268 17 from by rw [es11, xU_j _ _ (by decide)]).trans k268_17
    have q17 : s11 268 48 = s0 268 48 := (show s11 268 48 = s0 268 48 from by rw [es11, xU_j _ _ (by decide)]).trans k268_48
    have q18 : s11 268 8 = s0 268 8 := (show s11 268 8 = s0 268 8 from by rw [es11, xU_j _ _ (by decide)]).trans k268_8
    have q19 : s11 268 9 = 0 := by rw [es11, xU_s]
    have hF20 := hF.put es11 (by omega)
    have E30 := es11
    refine x_aload_n hx hb hl 0 rfl dX11_walk_33 rfl ?_
    refine x_iload_n hx hb hl 2 rfl dX11_walk_34 rfl ?_
    refine x_put (j := 10) hx hb hown hT hE hW cls_X11 (by decide) (fun σ => so_268 h0 g σ) (by decide) (st_X11_10 h0 s11 268 n) (ln_X11_10 h0 _ _) wq1195 rfl rfl rfl rn dX11_walk_35 (fun H locs s21 es21 hW => ?_)
    have q22 : IMn s21 := by rw [es21]; exact IMn_268 q12 (by omega)
    have q23 : IMk s21 := by rw [es21]; exact IMk_268 q13 (by omega)
    have q24 : IMo s21 := by rw [es21]; exact IMo_o (by unfold suIMo; first | decide | omega) q14
    have q25 : s21 268 58 = s0 268 58 := (show s21 268 58 = s11 268 58 from by rw [es21, xU_j _ _ (by decide)]).trans q15
    have q26 : s21 268 17 = s0 268 17 := (show s21 268 17 = s11 268 17 from by rw [es21, xU_j _ _ (by decide)]).trans q16
    have q27 : s21 268 48 = s0 268 48 := (show s21 268 48 = s11 268 48 from by rw [es21, xU_j _ _ (by decide)]).trans q17
    have q28 : s21 268 8 = s0 268 8 := (show s21 268 8 = s11 268 8 from by rw [es21, xU_j _ _ (by decide)]).trans q18
    have q29 : s21 268 9 = 0 := (show s21 268 9 = s11 268 9 from by rw [es21, xU_j _ _ (by decide)]).trans q19
    have q30 : s21 268 10 = n := by rw [es21, xU_s]
    have hF31 := hF20.put es21 (by omega)
    have q32 : IR s21 := by unfold IR; omega
    have hN : ¬ (j < 0 ∨ 1 < j ∨ n < 1 ∨ 80 < n ∨ s0 268 8 < n) := fun h => by rcases h with h | h | h | h | h <;> omega
    have E35 := es21
    refine x_aload_n hx hb hl 0 rfl dX11_walk_38 rfl ?_
    refine x_iconst hx hb dX11_walk_39 ?_
    refine x_put (j := 34) hx hb hown hT hE hW cls_X11 (by decide) (fun σ => so_268 h0 g σ) (by decide) (st_X11_34 h0 s21 268 0) (ln_X11_34 h0 _ _) wq1219 rfl rfl rfl (by decide) dX11_walk_40 (fun H locs s33 es33 hW => ?_)
    have q34 : IMn s33 := by rw [es33]; exact IMn_268 q22 (by omega)
    have q35 : IMk s33 := by rw [es33]; exact IMk_268 q23 (by omega)
    have q36 : IMo s33 := by rw [es33]; exact IMo_o (by unfold suIMo; first | decide | omega) q24
    have q37 : s33 268 58 = s0 268 58 := (show s33 268 58 = s21 268 58 from by rw [es33, xU_j _ _ (by decide)]).trans q25
    have q38 : s33 268 17 = s0 268 17 := (show s33 268 17 = s21 268 17 from by rw [es33, xU_j _ _ (by decide)]).trans q26
    have q39 : s33 268 48 = s0 268 48 := (show s33 268 48 = s21 268 48 from by rw [es33, xU_j _ _ (by decide)]).trans q27
    have q40 : s33 268 8 = s0 268 8 := (show s33 268 8 = s21 268 8 from by rw [es33, xU_j _ _ (by decide)]).trans q28
    have q41 : s33 268 9 = 0 := (show s33 268 9 = s21 268 9 from by rw [es33, xU_j _ _ (by decide)]).trans q29
    have q42 : s33 268 10 = n := (show s33 268 10 = s21 268 10 from by rw [es33, xU_j _ _ (by decide)]).trans q30
    have q43 : IR s33 := by rw [es33]; exact IR_268 q32 (by omega)
    have q44 : s33 268 34 = 0 := by rw [es33, xU_s]
    have hF45 := hF31.put es33 (by omega)
    have E40 := es33
    refine x_aload_n hx hb hl 0 rfl dX11_walk_43 rfl ?_
    refine x_iconst hx hb dX11_walk_44 ?_
    refine x_put (j := 35) hx hb hown hT hE hW cls_X11 (by decide) (fun σ => so_268 h0 g σ) (by decide) (st_X11_35 h0 s33 268 0) (ln_X11_35 h0 _ _) wq1220 rfl rfl rfl (by decide) dX11_walk_45 (fun H locs s46 es46 hW => ?_)
    have q47 : IMn s46 := by rw [es46]; exact IMn_268 q34 (by omega)
    have q48 : IMk s46 := by rw [es46]; exact IMk_268 q35 (by omega)
    have q49 : IMo s46 := by rw [es46]; exact IMo_o (by unfold suIMo; first | decide | omega) q36
    have q50 : s46 268 58 = s0 268 58 := (show s46 268 58 = s33 268 58 from by rw [es46, xU_j _ _ (by decide)]).trans q37
    have q51 : s46 268 17 = s0 268 17 := (show s46 268 17 = s33 268 17 from by rw [es46, xU_j _ _ (by decide)]).trans q38
    have q52 : s46 268 48 = s0 268 48 := (show s46 268 48 = s33 268 48 from by rw [es46, xU_j _ _ (by decide)]).trans q39
    have q53 : s46 268 8 = s0 268 8 := (show s46 268 8 = s33 268 8 from by rw [es46, xU_j _ _ (by decide)]).trans q40
    have q54 : s46 268 9 = 0 := (show s46 268 9 = s33 268 9 from by rw [es46, xU_j _ _ (by decide)]).trans q41
    have q55 : s46 268 10 = n := (show s46 268 10 = s33 268 10 from by rw [es46, xU_j _ _ (by decide)]).trans q42
    have q56 : IR s46 := by rw [es46]; exact IR_268 q43 (by omega)
    have q57 : s46 268 34 = 0 := (show s46 268 34 = s33 268 34 from by rw [es46, xU_j _ _ (by decide)]).trans q44
    have q58 : s46 268 35 = 0 := by rw [es46, xU_s]
    have hF59 := hF45.put es46 (by omega)
    have G45 : s46 276 = s0 276 := hF59 276 (by first | decide | omega)
    have N45 : s46 268 10 = n := by omega
    have Z45 : zWY (xm8 (s46 276)) (s46 268 10) Z9 true (s46 268 9) (s46 268 34) (s46 289) (zst s46) := by
      rw [G45, N45, show s46 268 9 = 0 from by omega, show s46 268 34 = 0 from by omega, show zst s46 = [] from if_pos (by omega)]
      rw [eZ9]
      exact zWY.new _ _ _ _
    have E45 := es46
    have Q45 : s46 269 = s0 269 ∧ s46 274 = s0 274 ∧ s46 275 = s0 275 := by rw [E45, xU_k _ _ _ (by first | decide | omega), xU_k _ _ _ (by first | decide | omega), xU_k _ _ _ (by first | decide | omega), E40, xU_k _ _ _ (by first | decide | omega), xU_k _ _ _ (by first | decide | omega), xU_k _ _ _ (by first | decide | omega), E35, xU_k _ _ _ (by first | decide | omega), xU_k _ _ _ (by first | decide | omega), xU_k _ _ _ (by first | decide | omega), E30, xU_k _ _ _ (by first | decide | omega), xU_k _ _ _ (by first | decide | omega), xU_k _ _ _ (by first | decide | omega)]; exact ⟨rfl, rfl, rfl⟩
    refine x_aload_n hx hb hl 0 rfl dX11_walk_48 rfl ?_
    refine x_goi (x_runV (As := []) hx hb hml hown hT hE hW hl.1 (Or.inl (by decide)) (so_268 h0 g _) rfl cf_X11_readsStep wq1446 wq112 wq1444 (c_X11_readsStepJ l D g T h0 s46 hW.2.1 Z9 (zRW.new (by omega) (by omega)) (zR0.new (by omega)) (Z45) q47 q48 q49 q56) ⟨rfl, rfl, ⟨by decide, by decide⟩, ⟨by decide, by decide⟩⟩ rfl rfl (Nat.le_of_ble_eq_true rfl) dX11_walk_49) hW (fun x60 s61 H locs rx60 hp62 hW => ?_)
    obtain ⟨fs61, hp62⟩ := hp62
    have hF63 := hF59.call fs61 (fun k h => by omega)
    have ghp62 := hp62.2
    have H49 := ghp62
    rw [G45, N45] at H49
    have Q49 : s61 269 = s0 269 ∧ s61 274 = s0 274 ∧ s61 275 = s0 275 := ⟨(fs61 269 (by first | decide | omega)).trans Q45.1, (fs61 274 (by first | decide | omega)).trans Q45.2.1, (fs61 275 (by first | decide | omega)).trans Q45.2.2⟩
    refine lv_istore_n (lv' := [(3, .int (xJ x60)), (0, .ref (h0 + 268)), (1, .int (xJ j)), (2, .int (xJ n))]) hx hb dX11_walk_52 rfl hl (by decide) rfl (fun ls hl => ?_)
    have L53 : ∀ (fu : Nat) (i3_53 : Int) (s_53 : xS) (H : Heap) (locs : List Loc) (ls : Array Slot), (xR i3_53) → (xFr (fun k => k = 268 ∨ k = 269 ∨ k = 274 ∨ k = 275 ∨ k = 289 ∨ k = 290 ∨ k = 291 ∨ k = 292) s0 s_53) → (IMn s_53) → (IMk s_53) → (IMo s_53) → (IR s_53) → (s_53 268 8 = s0 268 8) → (s_53 268 58 = s0 268 58) → (s_53 268 10 = n) → (s_53 268 17 = s0 268 17) → (s_53 268 48 = s0 268 48) → ((i3_53 = 0 ∧ Z9.1 ≠ 0 ∧ s_53 268 11 = Z9.1) ∨ (i3_53 = 1 ∧ zRW s_53 ∧ zR0 s_53 ∧ zWY (xm8 (s0 276)) n Z9 false (s_53 268 9) (s_53 268 34) (s_53 289) (zst s_53) ∧ (zch (xm8 (s0 276)) n (s_53 268 9) ≠ 41 ∨ s_53 268 35 = 0))) → (s_53 269 = s0 269 ∧ s_53 274 = s0 274 ∧ s_53 275 = s0 275) → (2 * (241 - s_53 268 9) + i3_53).toNat < fu → xW D g h0 s H locs s_53 → lv_has ls 5 [(0, .ref (h0 + 268)), (1, .int (xJ j)), (3, .int (xJ i3_53))] → W p l e { frames := 3, cells := 0, slots := 0, locals := 70 } s m args below meth c H locs 0 0 Q (F0 m 53 ls []) := by
      intro fu
      induction fu with
      | zero => intro i3_53 s_53 H locs ls ri3_53 hF_53 q53_0 q53_1 q53_2 q53_3 q53_4 q53_5 q53_6 q53_7 q53_8 v53_0 v53_1 hm; exact absurd hm (Nat.not_lt_zero _)
      | succ fu ih53 =>
        intro i3_53 s_53 H locs ls ri3_53 hF_53 q53_0 q53_1 q53_2 q53_3 q53_4 q53_5 q53_6 q53_7 q53_8 v53_0 v53_1 hm hW hl
        have hm_53 := fun (_ : Unit) => hm
        clear hm
        have r53 : 0 ≤ s_53 268 9 ∧ s_53 268 9 ≤ s_53 268 10 ∧ s_53 268 10 ≤ 240 := q53_3
        refine x_iload_n hx hb hl 2 rfl dX11_walk_53 rfl ?_
        have J83 : ∀ (ls : Array Slot), (i3_53 = 0 ∨ (i3_53 = 1 ∧ s_53 268 9 ≥ n ∧ s_53 268 35 ≤ 0)) → lv_has ls 5 [(0, .ref (h0 + 268)), (1, .int (xJ j)), (3, .int (xJ i3_53))] → W p l e { frames := 3, cells := 0, slots := 0, locals := 70 } s m args below meth c H locs 0 0 Q (F0 m 83 ls []) := by
          intro ls v83_0  hl
          refine x_aload_n hx hb hl 0 rfl dX11_walk_83 rfl ?_
          refine x_iconst hx hb dX11_walk_84 ?_
          refine x_put (j := 8) hx hb hown hT hE hW cls_X11 (by decide) (fun σ => so_268 h0 g σ) (by decide) (st_X11_8 h0 s_53 268 0) (ln_X11_8 h0 _ _) wq1193 rfl rfl rfl (by decide) dX11_walk_85 (fun H locs s64 es64 hW => ?_)
          have q65 : IMn s64 := by rw [es64]; exact IMn_268 q53_0 (by omega)
          have q66 : IMk s64 := by rw [es64]; exact IMk_268 q53_1 (by omega)
          have q67 : IMo s64 := by rw [es64]; exact IMo_o (by unfold suIMo; first | decide | omega) q53_2
          have q68 : IR s64 := by rw [es64]; exact IR_268 q53_3 (by omega)
          have q69 : s64 268 8 = 0 := by rw [es64, xU_s]
          have q70 : s64 268 58 = s0 268 58 := (show s64 268 58 = s_53 268 58 from by rw [es64, xU_j _ _ (by decide)]).trans q53_5
          have q71 : s64 268 10 = n := (show s64 268 10 = s_53 268 10 from by rw [es64, xU_j _ _ (by decide)]).trans q53_6
          have q72 : s64 268 17 = s0 268 17 := (show s64 268 17 = s_53 268 17 from by rw [es64, xU_j _ _ (by decide)]).trans q53_7
          have q73 : s64 268 48 = s0 268 48 := (show s64 268 48 = s_53 268 48 from by rw [es64, xU_j _ _ (by decide)]).trans q53_8
          have hF74 := hF_53.put es64 (by omega)
          have Y85 : s64 268 34 = s_53 268 34 ∧ s64 268 11 = s_53 268 11 := by rw [es64, xU_j _ _ (by decide), xU_j _ _ (by decide)]; exact ⟨rfl, rfl⟩
          have Z85 : i3_53 = 0 ∨ (0 ≤ s_53 268 34 ∧ s_53 268 34 ≤ 60) := v53_0.elim (fun q => Or.inl q.1) (fun q => Or.inr q.2.1.1)
          have Q85 : s64 269 = s0 269 ∧ s64 274 = s0 274 ∧ s64 275 = s0 275 := by rw [es64, xU_k _ _ _ (by first | decide | omega), xU_k _ _ _ (by first | decide | omega), xU_k _ _ _ (by first | decide | omega)]; exact v53_1
          have N85 : s64 289 = s_53 289 := by rw [es64, xU_k _ _ _ (by first | decide | omega)]
          refine x_iload_n hx hb hl 2 rfl dX11_walk_88 rfl ?_
          refine x_if_ne (tgt := 97) hx hb ri3_53 dX11_walk_89 (by decide) (fun c75 => ?_) (fun c75 => ?_)
          · skip
            refine x_aload_n hx hb hl 0 rfl dX11_walk_97 rfl ?_
            refine x_get (j := 5) (v := .ref (h0 + 274)) hx hb hown hT hE hW cls_X11 (Or.inl (by decide)) (so_268 h0 g _) (by decide) rfl wq1190 dX11_walk_98 ?_
            refine x_iload_n hx hb hl 1 rfl dX11_walk_101 rfl ?_
            refine x_aload_n hx hb hl 0 rfl dX11_walk_102 rfl ?_
            refine x_get (j := 34) (v := .int (xJ (s64 268 34))) hx hb hown hT hE hW cls_X11 (Or.inl (by decide)) (so_268 h0 g _) (by decide) rfl wq1219 dX11_walk_103 ?_
            refine x_rd hW (fun x76 ex76 rx76 => ?_)
            refine x_iast hx hb hE hW (by decide) (fun σ => sa_274 h0 g σ) (by omega) (by decide) rx76 dX11_walk_106 (fun H locs s77 es77 hW => ?_)
            have q78 : IMn s77 := by rw [es77]; exact IMn_274 q65 (by omega)
            have q79 : IMk s77 := by rw [es77]; exact IMk_o (by unfold suIMk; first | decide | omega) q66
            have q80 : IMo s77 := by rw [es77]; exact IMo_o (by unfold suIMo; first | decide | omega) q67
            have q81 : IR s77 := by rw [es77]; exact IR_o (by unfold suIR; first | decide | omega) q68
            have q82 : s77 268 8 = 0 := (show s77 268 8 = s64 268 8 from by rw [es77, xU_k _ _ _ (by first | decide | omega)]).trans q69
            have q83 : s77 268 58 = s0 268 58 := (show s77 268 58 = s64 268 58 from by rw [es77, xU_k _ _ _ (by first | decide | omega)]).trans q70
            have q84 : s77 268 10 = n := (show s77 268 10 = s64 268 10 from by rw [es77, xU_k _ _ _ (by first | decide | omega)]).trans q71
            have q85 : s77 268 17 = s0 268 17 := (show s77 268 17 = s64 268 17 from by rw [es77, xU_k _ _ _ (by first | decide | omega)]).trans q72
            have q86 : s77 268 48 = s0 268 48 := (show s77 268 48 = s64 268 48 from by rw [es77, xU_k _ _ _ (by first | decide | omega)]).trans q73
            have hF87 := hF74.put es77 (by omega)
            have Y106 : s77 268 34 = s_53 268 34 := by rw [es77, xU_k _ _ _ (by first | decide | omega)]; exact Y85.1
            have R106 : s77 269 = s0 269 ∧ s77 274 = xud (s0 274) j (s_53 268 34) ∧ s77 275 = s0 275 ∧ s77 289 = s_53 289 := ⟨by rw [es77, xU_k _ _ _ (by first | decide | omega)]; exact Q85.1, by rw [es77, xU_xud, Q85.2.1]; congr 1; omega, by rw [es77, xU_k _ _ _ (by first | decide | omega)]; exact Q85.2.2, by rw [es77, xU_k _ _ _ (by first | decide | omega)]; exact N85⟩
            have Y9 := (v53_0.resolve_left (fun q => absurd q.1 (by omega))).2
            have b9 := Y9.2.2.1.bb
            refine x_aload_n hx hb hl 0 rfl dX11_walk_107 rfl ?_
            refine x_get (j := 0) (v := .ref (h0 + 269)) hx hb hown hT hE hW cls_X11 (Or.inl (by decide)) (so_268 h0 g _) (by decide) rfl wq1185 dX11_walk_108 ?_
            refine x_iconst hx hb dX11_walk_111 ?_
            refine x_iload_n hx hb hl 1 rfl dX11_walk_112 rfl ?_
            refine x_iadd hx hb dX11_walk_113 ?_
            refine x_iconst hx hb dX11_walk_114 ?_
            refine x_iast hx hb hE hW (by decide) (fun σ => sa_269 h0 g σ) (by omega) (by decide) (by decide) dX11_walk_115 (fun H locs s88 es88 hW => ?_)
            have q89 : IMn s88 := by rw [es88]; exact IMn_N269 q78 (by omega)
            have q90 : IMk s88 := by rw [es88]; exact IMk_o (by unfold suIMk; first | decide | omega) q79
            have q91 : IMo s88 := by rw [es88]; exact IMo_o (by unfold suIMo; first | decide | omega) q80
            have q92 : IR s88 := by rw [es88]; exact IR_o (by unfold suIR; first | decide | omega) q81
            have q93 : s88 268 8 = 0 := (show s88 268 8 = s77 268 8 from by rw [es88, xU_k _ _ _ (by first | decide | omega)]).trans q82
            have q94 : s88 268 58 = s0 268 58 := (show s88 268 58 = s77 268 58 from by rw [es88, xU_k _ _ _ (by first | decide | omega)]).trans q83
            have q95 : s88 268 10 = n := (show s88 268 10 = s77 268 10 from by rw [es88, xU_k _ _ _ (by first | decide | omega)]).trans q84
            have q96 : s88 268 17 = s0 268 17 := (show s88 268 17 = s77 268 17 from by rw [es88, xU_k _ _ _ (by first | decide | omega)]).trans q85
            have q97 : s88 268 48 = s0 268 48 := (show s88 268 48 = s77 268 48 from by rw [es88, xU_k _ _ _ (by first | decide | omega)]).trans q86
            have hF98 := hF87.put es88 (by omega)
            have Y115 : s88 268 34 = s_53 268 34 := by rw [es88, xU_k _ _ _ (by first | decide | omega)]; exact Y106
            have R115 : s88 269 = xud (s0 269) (2 + j) 0 ∧ s88 274 = xud (s0 274) j (s_53 268 34) ∧ s88 275 = s0 275 ∧ s88 289 = s_53 289 := ⟨by rw [es88, xU_xud, R106.1], by rw [es88, xU_k _ _ _ (by first | decide | omega)]; exact R106.2.1, by rw [es88, xU_k _ _ _ (by first | decide | omega)]; exact R106.2.2.1, by rw [es88, xU_k _ _ _ (by first | decide | omega)]; exact R106.2.2.2⟩
            refine x_iconst hx hb dX11_walk_116 ?_
            refine lv_istore (lv' := [(4, .int (xJ 0)), (0, .ref (h0 + 268)), (1, .int (xJ j)), (3, .int (xJ i3_53))]) hx hb dX11_walk_117 hl (by decide) rfl (fun ls hl => ?_)
            have L119 : ∀ (fu : Nat) (i4_119 : Int) (s_119 : xS) (H : Heap) (locs : List Loc) (ls : Array Slot), (xR i4_119) → (xFr (fun k => k = 268 ∨ k = 269 ∨ k = 274 ∨ k = 275 ∨ k = 289 ∨ k = 290 ∨ k = 291 ∨ k = 292) s0 s_119) → (IMn s_119) → (IMk s_119) → (IMo s_119) → (IR s_119) → (s_119 268 8 = 0) → (s_119 268 58 = s0 268 58) → (s_119 268 10 = n) → (s_119 268 17 = s0 268 17) → (s_119 268 48 = s0 268 48) → (0 ≤ i4_119) → (s_119 268 34 = s_53 268 34) → (s_119 269 = xud (s0 269) (2 + j) 0 ∧ s_119 274 = xud (s0 274) j (s_53 268 34) ∧ s_119 289 = s_53 289) → (∀ i : Int, 0 ≤ i → i < i4_119 → s_119 275 (60 * j + i) = s_53 289 i) → (∀ i : Int, (i < 60 * j ∨ 60 * j + 60 ≤ i) → s_119 275 i = s0 275 i) → ((∀ i : Int, 0 ≤ i → i < 120 → 0 ≤ s0 275 i ∧ s0 275 i ≤ 8) → ∀ i : Int, 0 ≤ i → i < 120 → 0 ≤ s_119 275 i ∧ s_119 275 i ≤ 8) → (60 - i4_119).toNat < fu → xW D g h0 s H locs s_119 → lv_has ls 5 [(0, .ref (h0 + 268)), (1, .int (xJ j)), (4, .int (xJ i4_119))] → W p l e { frames := 3, cells := 0, slots := 0, locals := 70 } s m args below meth c H locs 0 0 Q (F0 m 119 ls []) := by
              intro fu
              induction fu with
              | zero => intro i4_119 s_119 H locs ls ri4_119 hF_119 q119_0 q119_1 q119_2 q119_3 q119_4 q119_5 q119_6 q119_7 q119_8 v119_0 v119_1 v119_2 v119_3 v119_4 v119_5 hm; exact absurd hm (Nat.not_lt_zero _)
              | succ fu ih119 =>
                intro i4_119 s_119 H locs ls ri4_119 hF_119 q119_0 q119_1 q119_2 q119_3 q119_4 q119_5 q119_6 q119_7 q119_8 v119_0 v119_1 v119_2 v119_3 v119_4 v119_5 hm hW hl
                have hm_119 := fun (_ : Unit) => hm
                clear hm
                refine x_iload hx hb hl 2 rfl dX11_walk_119 ?_
                refine x_aload_n hx hb hl 0 rfl dX11_walk_121 rfl ?_
                refine x_get (j := 34) (v := .int (xJ (s_119 268 34))) hx hb hown hT hE hW cls_X11 (Or.inl (by decide)) (so_268 h0 g _) (by decide) rfl wq1219 dX11_walk_122 ?_
                refine x_rd hW (fun x99 ex99 rx99 => ?_)
                refine x_icmp_ge (tgt := 153) hx hb ri4_119 rx99 dX11_walk_125 (by decide) (fun c100 => ?_) (fun c100 => ?_)
                · skip
                  refine x_aload_n hx hb hl 0 rfl dX11_walk_153 rfl ?_
                  refine x_get (j := 34) (v := .int (xJ (s_119 268 34))) hx hb hown hT hE hW cls_X11 (Or.inl (by decide)) (so_268 h0 g _) (by decide) rfl wq1219 dX11_walk_154 ?_
                  refine x_rd hW (fun x101 ex101 rx101 => ?_)
                  rw [eQ]
                  exact x_iret hx hb hr hlk hW rx101 ⟨hF_119, ⟨q119_0, q119_1, q119_2, q119_5, q119_7, q119_8, trivial⟩, by
                      rw [← eZ9]
                      have z := (v53_0.resolve_left (fun q => absurd q.1 (by omega))).2
                      have L9 := zst_l (σ := s_53) z.1.2.1
                      have z12 := z.1.2.1
                      have h9 : s_53 268 9 = n ∧ s_53 268 35 = 0 := by clear v53_0 H49 Z85; omega
                      clear v53_0 H49 Z85 v83_0
                      have y := z.2.2.1.fin0 (by omega) h9.1
                      exact Or.inr ⟨hN, by omega, Or.inr ⟨y.1, by omega, by rw [y.2.1]; exact v119_2.2.1, v119_2.1, by
                        rw [y.2.1]
                        intro i i1 i2
                        have q := y.2.2 i i1 i2
                        show s_119 275 (60 * j + i) = _ ∧ _
                        rw [v119_3 i i1 (by omega)]
                        exact q, v119_4, v119_5⟩⟩⟩ dX11_walk_157
                refine x_aload_n hx hb hl 0 rfl dX11_walk_128 rfl ?_
                refine x_get (j := 6) (v := .ref (h0 + 275)) hx hb hown hT hE hW cls_X11 (Or.inl (by decide)) (so_268 h0 g _) (by decide) rfl wq1191 dX11_walk_129 ?_
                refine x_bipush hx hb dX11_walk_132 (by decide) ?_
                refine x_iload_n hx hb hl 1 rfl dX11_walk_134 rfl ?_
                refine x_imul hx hb dX11_walk_135 ?_
                refine x_iload hx hb hl 2 rfl dX11_walk_136 ?_
                refine x_iadd hx hb dX11_walk_138 ?_
                refine x_aload_n hx hb hl 0 rfl dX11_walk_139 rfl ?_
                refine x_get (j := 30) (v := .ref (h0 + 289)) hx hb hown hT hE hW cls_X11 (Or.inl (by decide)) (so_268 h0 g _) (by decide) rfl wq1215 dX11_walk_140 ?_
                refine x_iload hx hb hl 2 rfl dX11_walk_143 ?_
                refine x_bald hx hb hE hW (Or.inl (by decide)) (sa_289 h0 g _) (by omega) (by decide) dX11_walk_145 ?_
                refine x_rd hW (fun x102 ex102 rx102 => ?_)
                have V145 : x102 = s_53 289 i4_119 := ex102.trans (congrFun v119_2.2.2 _)
                obtain ⟨y104, ey104, ry104, my104, by104⟩ := xnbm (v := x102) rx102
                refine x_bast (w := y104) hx hb hE hW (by decide) (fun σ => sa_275 h0 g σ) (by omega) (by decide) ey104 ry104 dX11_walk_146 (fun H locs s103 es103 hW => ?_)
                have q105 : IMn s103 := by rw [es103]; exact IMn_o (by unfold suIMn; first | decide | omega) q119_0
                have q106 : IMk s103 := by rw [es103]; exact IMk_o (by unfold suIMk; first | decide | omega) q119_1
                have q107 : IMo s103 := by rw [es103]; exact IMo_o (by unfold suIMo; first | decide | omega) q119_2
                have q108 : IR s103 := by rw [es103]; exact IR_o (by unfold suIR; first | decide | omega) q119_3
                have q109 : s103 268 8 = 0 := (show s103 268 8 = s_119 268 8 from by rw [es103, xU_k _ _ _ (by first | decide | omega)]).trans q119_4
                have q110 : s103 268 58 = s0 268 58 := (show s103 268 58 = s_119 268 58 from by rw [es103, xU_k _ _ _ (by first | decide | omega)]).trans q119_5
                have q111 : s103 268 10 = n := (show s103 268 10 = s_119 268 10 from by rw [es103, xU_k _ _ _ (by first | decide | omega)]).trans q119_6
                have q112 : s103 268 17 = s0 268 17 := (show s103 268 17 = s_119 268 17 from by rw [es103, xU_k _ _ _ (by first | decide | omega)]).trans q119_7
                have q113 : s103 268 48 = s0 268 48 := (show s103 268 48 = s_119 268 48 from by rw [es103, xU_k _ _ _ (by first | decide | omega)]).trans q119_8
                have hF114 := hF_119.put es103 (by omega)
                have E146 := es103
                have A146 : s103 275 = xud (s_119 275) (60 * j + i4_119) (s_53 289 i4_119) := by
                  have r := b9 i4_119 (by omega) (by omega)
                  rw [es103, xU_xud]
                  congr 1
                  omega
                refine x_iinc (lv' := [(4, .int (xJ (i4_119 + 1))), (0, .ref (h0 + 268)), (1, .int (xJ j))]) hx hb hl 2 rfl dX11_walk_147 (by decide) rfl (fun ls hl => ?_)
                refine lv_goto (tgt := 119) hx hb dX11_walk_150 (by decide) ?_
                exact ih119 (i4_119 + 1) s103 H locs ls (by omega) hF114 q105 q106 q107 q108 q109 q110 q111 q112 q113 (by omega) (by rw [es103, xU_k _ _ _ (by first | decide | omega)]; exact v119_1) (by rw [E146, xU_k _ _ _ (by first | decide | omega), xU_k _ _ _ (by first | decide | omega), xU_k _ _ _ (by first | decide | omega)]; exact v119_2) (fun i i1 i2 => by
                    rw [A146]
                    by_cases h : i = i4_119
                    · subst h; rw [xud_s]
                    · rw [xud_o _ _ (by omega)]; exact v119_3 i i1 (by omega)) (fun i h => by rw [A146, xud_o _ _ (by omega)]; exact v119_4 i h) (fun h i i1 i2 => by
                    rw [A146]
                    by_cases e : i = 60 * j + i4_119
                    · rw [e, xud_s]; exact b9 _ (by omega) (by omega)
                    · rw [xud_o _ _ e]; exact v119_5 h i i1 i2) (by have hm := hm_119 (); omega) hW (lv_sub hl [1, 2, 0] rfl)
            exact L119 ((60 - 0 : Int).toNat + 1) 0 s88 H locs ls (by decide) hF98 q89 q90 q91 q92 q93 q94 q95 q96 q97 (by omega) (Y115) (⟨R115.1, R115.2.1, R115.2.2.2⟩) (fun i i1 i2 => absurd i2 (by omega)) (fun i _ => by rw [R115.2.2.1]) (fun h i i1 i2 => by rw [R115.2.2.1]; exact h i i1 i2) (Nat.lt_succ_self _) hW (lv_sub hl [1, 2, 0] rfl)
          refine x_aload_n hx hb hl 0 rfl dX11_walk_92 rfl ?_
          refine x_get (j := 11) (v := .int (xJ (s64 268 11))) hx hb hown hT hE hW cls_X11 (Or.inl (by decide)) (so_268 h0 g _) (by decide) rfl wq1196 dX11_walk_93 ?_
          refine x_rd hW (fun x115 ex115 rx115 => ?_)
          rw [eQ]
          exact x_iret hx hb hr hlk hW rx115 ⟨hF74, ⟨q65, q66, q67, q70, q72, q73, trivial⟩, by
              rw [← eZ9]
              have z := v53_0.resolve_right (fun q => absurd q.1 (by omega))
              clear v53_0 H49 Z85 v83_0
              exact Or.inr ⟨hN, by omega, Or.inl ⟨z.2.1, by omega, Q85⟩⟩⟩ dX11_walk_96
        refine x_if_eq (tgt := 83) hx hb ri3_53 dX11_walk_54 (by decide) (fun c116 => ?_) (fun c116 => ?_)
        · skip
          exact J83 ls (by omega)  (lv_sub hl [0, 1, 2] rfl)
        refine x_aload_n hx hb hl 0 rfl dX11_walk_57 rfl ?_
        refine x_get (j := 9) (v := .int (xJ (s_53 268 9))) hx hb hown hT hE hW cls_X11 (Or.inl (by decide)) (so_268 h0 g _) (by decide) rfl wq1194 dX11_walk_58 ?_
        refine x_rd hW (fun x117 ex117 rx117 => ?_)
        have bx117 : 0 ≤ x117 ∧ x117 ≤ s_53 268 10 ∧ s_53 268 10 ≤ 240 := by rw [ex117]; exact q53_3
        refine x_aload_n hx hb hl 0 rfl dX11_walk_61 rfl ?_
        refine x_get (j := 10) (v := .int (xJ (s_53 268 10))) hx hb hown hT hE hW cls_X11 (Or.inl (by decide)) (so_268 h0 g _) (by decide) rfl wq1195 dX11_walk_62 ?_
        refine x_rd hW (fun x118 ex118 rx118 => ?_)
        have fx118 : x118 = n := ex118.trans q53_6
        refine x_icmp_lt (tgt := 75) hx hb rx117 rx118 dX11_walk_65 (by decide) (fun c119 => ?_) (fun c119 => ?_)
        · skip
          refine x_aload_n hx hb hl 0 rfl dX11_walk_75 rfl ?_
          refine x_goi (x_runV (As := []) hx hb hml hown hT hE hW hl.1 (Or.inl (by decide)) (so_268 h0 g _) rfl cf_X11_readsStep wq1446 wq112 wq1444 (c_X11_readsStepJ l D g T h0 s_53 hW.2.1 Z9 ((v53_0.resolve_left (fun q => by omega)).2.1) ((v53_0.resolve_left (fun q => by omega)).2.2.1) (by
              have L9 := zst_l (σ := s_53) (v53_0.resolve_left (fun q => by omega)).2.1.2.1
              have V9 := (v53_0.resolve_left (fun q => by omega)).2.2.2.1
              have E9 := (v53_0.resolve_left (fun q => by omega)).2.2.2.2
              rw [hF_53 276 (by first | decide | omega), show s_53 268 10 = n from by omega]
              by_cases e9 : s_53 268 35 = 0
              · exact V9.more0 (by omega) (by omega)
              · exact V9.moreN (by omega) (by omega) (by omega)) q53_0 q53_1 q53_2 q53_3) ⟨rfl, rfl, ⟨by decide, by decide⟩, ⟨by decide, by decide⟩⟩ rfl rfl (Nat.le_of_ble_eq_true rfl) dX11_walk_76) hW (fun x120 s121 H locs rx120 hp122 hW => ?_)
          obtain ⟨fs121, hp122⟩ := hp122
          have hF123 := hF_53.call fs121 (fun k h => by omega)
          have ghp122 := hp122.2
          have H76 := ghp122
          rw [hF_53 276 (by first | decide | omega), show s_53 268 10 = n from by omega] at H76
          have r76 : 0 ≤ s121 268 9 ∧ s121 268 9 ≤ s121 268 10 ∧ s121 268 10 ≤ 240 := hp122.1.2.2.2.1
          have Q76 : s121 269 = s0 269 ∧ s121 274 = s0 274 ∧ s121 275 = s0 275 := ⟨(fs121 269 (by first | decide | omega)).trans v53_1.1, (fs121 274 (by first | decide | omega)).trans v53_1.2.1, (fs121 275 (by first | decide | omega)).trans v53_1.2.2⟩
          refine lv_istore_n (lv' := [(3, .int (xJ x120)), (0, .ref (h0 + 268)), (1, .int (xJ j))]) hx hb dX11_walk_79 rfl hl (by decide) rfl (fun ls hl => ?_)
          refine lv_goto (tgt := 53) hx hb dX11_walk_80 (by decide) ?_
          exact ih53 x120 s121 H locs ls rx120 hF123 hp122.1.1 hp122.1.2.1 hp122.1.2.2.1 hp122.1.2.2.2.1 (hp122.1.2.2.2.2.1.trans q53_4) (hp122.1.2.2.2.2.2.1.trans q53_5) (hp122.1.2.2.2.2.2.2.1.trans q53_6) (hp122.1.2.2.2.2.2.2.2.1.trans q53_7) (hp122.1.2.2.2.2.2.2.2.2.1.trans q53_8) (H76.elim (fun q => Or.inl ⟨q.1, q.2.2.1, q.2.2.2⟩) (fun q => Or.inr ⟨q.1, q.2.1, q.2.2.1, q.2.2.2.2.1, q.2.2.2.2.2⟩)) (Q76) (by have hm := hm_53 (); omega) hW (lv_sub hl [1, 2, 0] rfl)
        refine x_aload_n hx hb hl 0 rfl dX11_walk_68 rfl ?_
        refine x_get (j := 35) (v := .int (xJ (s_53 268 35))) hx hb hown hT hE hW cls_X11 (Or.inl (by decide)) (so_268 h0 g _) (by decide) rfl wq1220 dX11_walk_69 ?_
        refine x_rd hW (fun x124 ex124 rx124 => ?_)
        refine x_if_le (tgt := 83) hx hb rx124 dX11_walk_72 (by decide) (fun c125 => ?_) (fun c125 => ?_)
        · skip
          exact J83 ls (by omega)  (lv_sub hl [0, 1, 2] rfl)
        refine x_aload_n hx hb hl 0 rfl dX11_walk_75 rfl ?_
        refine x_goi (x_runV (As := []) hx hb hml hown hT hE hW hl.1 (Or.inl (by decide)) (so_268 h0 g _) rfl cf_X11_readsStep wq1446 wq112 wq1444 (c_X11_readsStepJ l D g T h0 s_53 hW.2.1 Z9 ((v53_0.resolve_left (fun q => by omega)).2.1) ((v53_0.resolve_left (fun q => by omega)).2.2.1) (by
            have L9 := zst_l (σ := s_53) (v53_0.resolve_left (fun q => by omega)).2.1.2.1
            have V9 := (v53_0.resolve_left (fun q => by omega)).2.2.2.1
            have E9 := (v53_0.resolve_left (fun q => by omega)).2.2.2.2
            rw [hF_53 276 (by first | decide | omega), show s_53 268 10 = n from by omega]
            by_cases e9 : s_53 268 35 = 0
            · exact V9.more0 (by omega) (by omega)
            · exact V9.moreN (by omega) (by omega) (by omega)) q53_0 q53_1 q53_2 q53_3) ⟨rfl, rfl, ⟨by decide, by decide⟩, ⟨by decide, by decide⟩⟩ rfl rfl (Nat.le_of_ble_eq_true rfl) dX11_walk_76) hW (fun x126 s127 H locs rx126 hp128 hW => ?_)
        obtain ⟨fs127, hp128⟩ := hp128
        have hF129 := hF_53.call fs127 (fun k h => by omega)
        have ghp128 := hp128.2
        have H76 := ghp128
        rw [hF_53 276 (by first | decide | omega), show s_53 268 10 = n from by omega] at H76
        have r76 : 0 ≤ s127 268 9 ∧ s127 268 9 ≤ s127 268 10 ∧ s127 268 10 ≤ 240 := hp128.1.2.2.2.1
        have Q76 : s127 269 = s0 269 ∧ s127 274 = s0 274 ∧ s127 275 = s0 275 := ⟨(fs127 269 (by first | decide | omega)).trans v53_1.1, (fs127 274 (by first | decide | omega)).trans v53_1.2.1, (fs127 275 (by first | decide | omega)).trans v53_1.2.2⟩
        refine lv_istore_n (lv' := [(3, .int (xJ x126)), (0, .ref (h0 + 268)), (1, .int (xJ j))]) hx hb dX11_walk_79 rfl hl (by decide) rfl (fun ls hl => ?_)
        refine lv_goto (tgt := 53) hx hb dX11_walk_80 (by decide) ?_
        exact ih53 x126 s127 H locs ls rx126 hF129 hp128.1.1 hp128.1.2.1 hp128.1.2.2.1 hp128.1.2.2.2.1 (hp128.1.2.2.2.2.1.trans q53_4) (hp128.1.2.2.2.2.2.1.trans q53_5) (hp128.1.2.2.2.2.2.2.1.trans q53_6) (hp128.1.2.2.2.2.2.2.2.1.trans q53_7) (hp128.1.2.2.2.2.2.2.2.2.1.trans q53_8) (H76.elim (fun q => Or.inl ⟨q.1, q.2.2.1, q.2.2.2⟩) (fun q => Or.inr ⟨q.1, q.2.1, q.2.2.1, q.2.2.2.2.1, q.2.2.2.2.2⟩)) (Q76) (by have hm := hm_53 (); omega) hW (lv_sub hl [1, 2, 0] rfl)
    exact L53 ((2 * (241 - s61 268 9) + x60 : Int).toNat + 1) x60 s61 H locs ls rx60 hF63 hp62.1.1 hp62.1.2.1 hp62.1.2.2.1 hp62.1.2.2.2.1 (hp62.1.2.2.2.2.1.trans q53) (hp62.1.2.2.2.2.2.1.trans q50) (hp62.1.2.2.2.2.2.2.1.trans q55) (hp62.1.2.2.2.2.2.2.2.1.trans q51) (hp62.1.2.2.2.2.2.2.2.2.1.trans q52) (H49.elim (fun q => Or.inl ⟨q.1, q.2.2.1, q.2.2.2⟩) (fun q => Or.inr ⟨q.1, q.2.1, q.2.2.1, q.2.2.2.2.1, q.2.2.2.2.2⟩)) (Q49) (Nat.lt_succ_self _) hW (lv_sub hl [1, 2, 0] rfl)
  refine x_iconst hx hb dX11_walk_26 ?_
  rw [eQ]
  exact x_iret hx hb hr hlk hW (by decide) ⟨hF, ⟨p0, p1, p2, k268_58, k268_17, k268_48, trivial⟩, Or.inl ⟨by omega, by omega, by omega, rfl, rfl, rfl⟩⟩ dX11_walk_27


