set_option maxHeartbeats 4000000 in
set_option maxRecDepth 100000 in
theorem c_X11_walkJ (l : Launch) (D : va_G) (g : xG) (T : Nat × Nat × Nat) (h0 : Nat) (s0 : xS) (hσ : xRR s0) (j : Int) (rj : xR j) (n : Int) (rn : xR n) (p0 : IMn s0) (p1 : IMk s0) (p2 : IMo s0) : Met l yX11_walk (xws yX11_walk cX11_walk 5 (some .int)) { frames := 3, cells := 0, slots := 0, locals := 70 } (xP [.ref (h0 + 268), .int (xJ j), .int (xJ n)] D g T h0 s0) (xQi D g h0 (fun r τ => xFr (fun k => k = 268 ∨ k = 269 ∨ k = 274 ∨ k = 275 ∨ k = 289 ∨ k = 290 ∨ k = 291 ∨ k = 292) s0 τ ∧ (((IMn τ) ∧ (IMk τ) ∧ (IMo τ) ∧ (τ 268 58 = s0 268 58) ∧ True) ∧ (((j < 0 ∨ 1 < j ∨ n < 1 ∨ 80 < n ∨ s0 268 8 < n) ∧ τ 268 8 = s0 268 8 ∧ r = -1 ∧ τ 269 = s0 269 ∧ τ 274 = s0 274 ∧ τ 275 = s0 275) ∨ (¬ (j < 0 ∨ 1 < j ∨ n < 1 ∨ 80 < n ∨ s0 268 8 < n) ∧ τ 268 8 = 0 ∧ (((zws (xm8 (s0 276)) n 1 (2 * n + 1).toNat true 0 0 (fun _ => 0) []).1 ≠ 0 ∧ r = (zws (xm8 (s0 276)) n 1 (2 * n + 1).toNat true 0 0 (fun _ => 0) []).1 ∧ τ 269 = s0 269 ∧ τ 274 = s0 274 ∧ τ 275 = s0 275) ∨ ((zws (xm8 (s0 276)) n 1 (2 * n + 1).toNat true 0 0 (fun _ => 0) []).1 = 0 ∧ r = (zws (xm8 (s0 276)) n 1 (2 * n + 1).toNat true 0 0 (fun _ => 0) []).2.1 ∧ τ 274 = xud (s0 274) j (zws (xm8 (s0 276)) n 1 (2 * n + 1).toNat true 0 0 (fun _ => 0) []).2.1 ∧ τ 269 = xud (s0 269) (2 + j) 0 ∧ zCu 2 (zws (xm8 (s0 276)) n 1 (2 * n + 1).toNat true 0 0 (fun _ => 0) []).2.1 (zws (xm8 (s0 276)) n 1 (2 * n + 1).toNat true 0 0 (fun _ => 0) []).2.2 (fun i => τ 275 (60 * j + i)) ∧ (∀ i : Int, (i < 60 * j ∨ 60 * j + 60 ≤ i) → τ 275 i = s0 275 i) ∧ ((∀ i : Int, 0 ≤ i → i < 120 → 0 ≤ s0 275 i ∧ s0 275 i ≤ 8) → ∀ i : Int, 0 ≤ i → i < 120 → 0 ≤ τ 275 i ∧ τ 275 i ≤ 8)))))))) 0 0 (xA h0) := by
  refine x_met hσ (by decide) (Nat.le_of_ble_eq_true rfl) ?_
  intro p e s m args below meth c hx hb hr hml hown hT hlk hnm hE hW ls hl
  have hl : lv_has ls 5 [(0, .ref (h0 + 268)), (1, .int (xJ j)), (2, .int (xJ n))] := hl
  obtain ⟨Q, eQ⟩ : ∃ Q, Q = MQ below (xQi D g h0 (fun r τ => xFr (fun k => k = 268 ∨ k = 269 ∨ k = 274 ∨ k = 275 ∨ k = 289 ∨ k = 290 ∨ k = 291 ∨ k = 292) s0 τ ∧ (((IMn τ) ∧ (IMk τ) ∧ (IMo τ) ∧ (τ 268 58 = s0 268 58) ∧ True) ∧ (((j < 0 ∨ 1 < j ∨ n < 1 ∨ 80 < n ∨ s0 268 8 < n) ∧ τ 268 8 = s0 268 8 ∧ r = -1 ∧ τ 269 = s0 269 ∧ τ 274 = s0 274 ∧ τ 275 = s0 275) ∨ (¬ (j < 0 ∨ 1 < j ∨ n < 1 ∨ 80 < n ∨ s0 268 8 < n) ∧ τ 268 8 = 0 ∧ (((zws (xm8 (s0 276)) n 1 (2 * n + 1).toNat true 0 0 (fun _ => 0) []).1 ≠ 0 ∧ r = (zws (xm8 (s0 276)) n 1 (2 * n + 1).toNat true 0 0 (fun _ => 0) []).1 ∧ τ 269 = s0 269 ∧ τ 274 = s0 274 ∧ τ 275 = s0 275) ∨ ((zws (xm8 (s0 276)) n 1 (2 * n + 1).toNat true 0 0 (fun _ => 0) []).1 = 0 ∧ r = (zws (xm8 (s0 276)) n 1 (2 * n + 1).toNat true 0 0 (fun _ => 0) []).2.1 ∧ τ 274 = xud (s0 274) j (zws (xm8 (s0 276)) n 1 (2 * n + 1).toNat true 0 0 (fun _ => 0) []).2.1 ∧ τ 269 = xud (s0 269) (2 + j) 0 ∧ zCu 2 (zws (xm8 (s0 276)) n 1 (2 * n + 1).toNat true 0 0 (fun _ => 0) []).2.1 (zws (xm8 (s0 276)) n 1 (2 * n + 1).toNat true 0 0 (fun _ => 0) []).2.2 (fun i => τ 275 (60 * j + i)) ∧ (∀ i : Int, (i < 60 * j ∨ 60 * j + 60 ≤ i) → τ 275 i = s0 275 i) ∧ ((∀ i : Int, 0 ≤ i → i < 120 → 0 ≤ s0 275 i ∧ s0 275 i ≤ 8) → ∀ i : Int, 0 ≤ i → i < 120 → 0 ≤ τ 275 i ∧ τ 275 i ≤ 8)))))))) args s 0 0 (xA h0) := ⟨_, rfl⟩
  rw [← eQ]
  generalize hHe : ([] : List Loc) = locs at hW ⊢
  obtain ⟨H, eH⟩ : ∃ H, H = s.heap := ⟨_, rfl⟩
  rw [← eH] at hW ⊢
  have hF : xFr (fun k => k = 268 ∨ k = 269 ∨ k = 274 ∨ k = 275 ∨ k = 289 ∨ k = 290 ∨ k = 291 ∨ k = 292) s0 s0 := xFr.rf
  have k268_58 : s0 268 58 = s0 268 58 := rfl
  have k268_8 : s0 268 8 = s0 268 8 := rfl
  obtain ⟨Z9, eZ9⟩ : ∃ Z, Z = (zws (xm8 (s0 276)) n 1 (2 * n + 1).toNat true 0 0 (fun _ => 0) []) := ⟨_, rfl⟩
  refine x_iload_n hx hb hl 1 rfl dX11_walk_0 rfl ?_
  refine x_iconst hx hb dX11_walk_1 ?_
  refine x_goi (x_runS (As := [.int (xJ j), .int (xJ 2)]) hx hb hml hown hT hE hW hl.1 cf_X11_isFive wq1412 wq1411 (c_X11_isFive l D g T h0 s0 hW.2.1 j rj 2 (by decide)) ⟨rfl, rfl, ⟨by decide, by decide⟩, ⟨by decide, by decide⟩⟩ rfl rfl (Nat.le_of_ble_eq_true rfl) dX11_walk_2) hW (fun x1 s2 H locs rx1 hp3 hW => ?_)
  obtain ⟨es2, hp3⟩ := hp3
  subst es2
  have ghp3 := hp3
  refine x_if_eq (tgt := 26) hx hb rx1 dX11_walk_5 (by decide) (fun c4 => ?_) (fun c4 => ?_)
  · skip
    refine x_iconst hx hb dX11_walk_26 ?_
    rw [eQ]
    exact x_iret hx hb hr hlk hW (by decide) ⟨hF, ⟨p0, p1, p2, k268_58, trivial⟩, Or.inl ⟨by omega, by omega, by omega, rfl, rfl, rfl⟩⟩ dX11_walk_27
  refine x_iload_n hx hb hl 2 rfl dX11_walk_8 rfl ?_
  refine x_iconst hx hb dX11_walk_9 ?_
  refine x_bipush hx hb dX11_walk_10 (by decide) ?_
  refine x_goi (x_runS (As := [.int (xJ n), .int (xJ 1), .int (xJ 80)]) hx hb hml hown hT hE hW hl.1 cf_X11_in wq1383 wq1382 (c_X11_in l D g T h0 s0 hW.2.1 n rn 1 (by decide) 80 (by decide)) ⟨rfl, rfl, ⟨by decide, by decide⟩, ⟨by decide, by decide⟩⟩ rfl rfl (Nat.le_of_ble_eq_true rfl) dX11_walk_12) hW (fun x5 s6 H locs rx5 hp7 hW => ?_)
  obtain ⟨es6, hp7⟩ := hp7
  subst es6
  have ghp7 := hp7
  refine x_if_eq (tgt := 26) hx hb rx5 dX11_walk_15 (by decide) (fun c8 => ?_) (fun c8 => ?_)
  · skip
    refine x_iconst hx hb dX11_walk_26 ?_
    rw [eQ]
    exact x_iret hx hb hr hlk hW (by decide) ⟨hF, ⟨p0, p1, p2, k268_58, trivial⟩, Or.inl ⟨by omega, by omega, by omega, rfl, rfl, rfl⟩⟩ dX11_walk_27
  refine x_iload_n hx hb hl 2 rfl dX11_walk_18 rfl ?_
  refine x_aload_n hx hb hl 0 rfl dX11_walk_19 rfl ?_
  refine x_get (j := 8) (v := .int (xJ (s0 268 8))) hx hb hown hT hE hW cls_X11 (Or.inl (by decide)) (so_268 h0 g _) (by decide) rfl wq1193 dX11_walk_20 ?_
  refine x_rd hW (fun x9 ex9 rx9 => ?_)
  have bx9 : 0 ≤ x9 ∧ x9 ≤ 260 := by rw [ex9]; exact IMn.t p0
  have fx9 : x9 = s0 268 8 := ex9.trans k268_8
  refine x_icmp_le (tgt := 28) hx hb rn rx9 dX11_walk_23 (by decide) (fun c10 => ?_) (fun c10 => ?_)
  · skip
    refine x_aload_n hx hb hl 0 rfl dX11_walk_28 rfl ?_
    refine x_iconst hx hb dX11_walk_29 ?_
    refine x_put (j := 9) hx hb hown hT hE hW cls_X11 (by decide) (fun σ => so_268 h0 g σ) (by decide) (st_X11_9 h0 s0 268 0) (ln_X11_9 h0 _ _) wq1194 rfl rfl rfl (by decide) dX11_walk_30 (fun H locs s11 es11 hW => ?_)
    have q12 : IMn s11 := by rw [es11]; exact IMn_268 p0 (by omega)
    have q13 : IMk s11 := by rw [es11]; exact IMk_268 p1 (by omega)
    have q14 : IMo s11 := by rw [es11]; exact IMo_o (by unfold suIMo; first | decide | omega) p2
    have q15 : s11 268 58 = s0 268 58 := (show s11 268 58 = s0 268 58 from by rw [es11, xU_j _ _ (by decide)]).trans k268_58
    have q16 : s11 268 8 = s0 268 8 := (show s11 268 8 = s0 268 8 from by rw [es11, xU_j _ _ (by decide)]).trans k268_8
    have q17 : s11 268 9 = 0 := by rw [es11, xU_s]
    have hF18 := hF.put es11 (by omega)
    have E30 := es11
    refine x_aload_n hx hb hl 0 rfl dX11_walk_33 rfl ?_
    refine x_iload_n hx hb hl 2 rfl dX11_walk_34 rfl ?_
    refine x_put (j := 10) hx hb hown hT hE hW cls_X11 (by decide) (fun σ => so_268 h0 g σ) (by decide) (st_X11_10 h0 s11 268 n) (ln_X11_10 h0 _ _) wq1195 rfl rfl rfl rn dX11_walk_35 (fun H locs s19 es19 hW => ?_)
    have q20 : IMn s19 := by rw [es19]; exact IMn_268 q12 (by omega)
    have q21 : IMk s19 := by rw [es19]; exact IMk_268 q13 (by omega)
    have q22 : IMo s19 := by rw [es19]; exact IMo_o (by unfold suIMo; first | decide | omega) q14
    have q23 : s19 268 58 = s0 268 58 := (show s19 268 58 = s11 268 58 from by rw [es19, xU_j _ _ (by decide)]).trans q15
    have q24 : s19 268 8 = s0 268 8 := (show s19 268 8 = s11 268 8 from by rw [es19, xU_j _ _ (by decide)]).trans q16
    have q25 : s19 268 9 = 0 := (show s19 268 9 = s11 268 9 from by rw [es19, xU_j _ _ (by decide)]).trans q17
    have q26 : s19 268 10 = n := by rw [es19, xU_s]
    have hF27 := hF18.put es19 (by omega)
    have q28 : IR s19 := by unfold IR; omega
    have hN : ¬ (j < 0 ∨ 1 < j ∨ n < 1 ∨ 80 < n ∨ s0 268 8 < n) := fun h => by rcases h with h | h | h | h | h <;> omega
    have E35 := es19
    refine x_aload_n hx hb hl 0 rfl dX11_walk_38 rfl ?_
    refine x_iconst hx hb dX11_walk_39 ?_
    refine x_put (j := 34) hx hb hown hT hE hW cls_X11 (by decide) (fun σ => so_268 h0 g σ) (by decide) (st_X11_34 h0 s19 268 0) (ln_X11_34 h0 _ _) wq1219 rfl rfl rfl (by decide) dX11_walk_40 (fun H locs s29 es29 hW => ?_)
    have q30 : IMn s29 := by rw [es29]; exact IMn_268 q20 (by omega)
    have q31 : IMk s29 := by rw [es29]; exact IMk_268 q21 (by omega)
    have q32 : IMo s29 := by rw [es29]; exact IMo_o (by unfold suIMo; first | decide | omega) q22
    have q33 : s29 268 58 = s0 268 58 := (show s29 268 58 = s19 268 58 from by rw [es29, xU_j _ _ (by decide)]).trans q23
    have q34 : s29 268 8 = s0 268 8 := (show s29 268 8 = s19 268 8 from by rw [es29, xU_j _ _ (by decide)]).trans q24
    have q35 : s29 268 9 = 0 := (show s29 268 9 = s19 268 9 from by rw [es29, xU_j _ _ (by decide)]).trans q25
    have q36 : s29 268 10 = n := (show s29 268 10 = s19 268 10 from by rw [es29, xU_j _ _ (by decide)]).trans q26
    have q37 : IR s29 := by rw [es29]; exact IR_268 q28 (by omega)
    have q38 : s29 268 34 = 0 := by rw [es29, xU_s]
    have hF39 := hF27.put es29 (by omega)
    have E40 := es29
    refine x_aload_n hx hb hl 0 rfl dX11_walk_43 rfl ?_
    refine x_iconst hx hb dX11_walk_44 ?_
    refine x_put (j := 35) hx hb hown hT hE hW cls_X11 (by decide) (fun σ => so_268 h0 g σ) (by decide) (st_X11_35 h0 s29 268 0) (ln_X11_35 h0 _ _) wq1220 rfl rfl rfl (by decide) dX11_walk_45 (fun H locs s40 es40 hW => ?_)
    have q41 : IMn s40 := by rw [es40]; exact IMn_268 q30 (by omega)
    have q42 : IMk s40 := by rw [es40]; exact IMk_268 q31 (by omega)
    have q43 : IMo s40 := by rw [es40]; exact IMo_o (by unfold suIMo; first | decide | omega) q32
    have q44 : s40 268 58 = s0 268 58 := (show s40 268 58 = s29 268 58 from by rw [es40, xU_j _ _ (by decide)]).trans q33
    have q45 : s40 268 8 = s0 268 8 := (show s40 268 8 = s29 268 8 from by rw [es40, xU_j _ _ (by decide)]).trans q34
    have q46 : s40 268 9 = 0 := (show s40 268 9 = s29 268 9 from by rw [es40, xU_j _ _ (by decide)]).trans q35
    have q47 : s40 268 10 = n := (show s40 268 10 = s29 268 10 from by rw [es40, xU_j _ _ (by decide)]).trans q36
    have q48 : IR s40 := by rw [es40]; exact IR_268 q37 (by omega)
    have q49 : s40 268 34 = 0 := (show s40 268 34 = s29 268 34 from by rw [es40, xU_j _ _ (by decide)]).trans q38
    have q50 : s40 268 35 = 0 := by rw [es40, xU_s]
    have hF51 := hF39.put es40 (by omega)
    have G45 : s40 276 = s0 276 := hF51 276 (by first | decide | omega)
    have N45 : s40 268 10 = n := by omega
    have Z45 : zWY (xm8 (s40 276)) (s40 268 10) Z9 true (s40 268 9) (s40 268 34) (s40 289) (zst s40) := by
      rw [G45, N45, show s40 268 9 = 0 from by omega, show s40 268 34 = 0 from by omega, show zst s40 = [] from if_pos (by omega)]
      rw [eZ9]
      exact zWY.new _ _ _ _
    have E45 := es40
    have Q45 : s40 269 = s0 269 ∧ s40 274 = s0 274 ∧ s40 275 = s0 275 := by rw [E45, xU_k _ _ _ (by first | decide | omega), xU_k _ _ _ (by first | decide | omega), xU_k _ _ _ (by first | decide | omega), E40, xU_k _ _ _ (by first | decide | omega), xU_k _ _ _ (by first | decide | omega), xU_k _ _ _ (by first | decide | omega), E35, xU_k _ _ _ (by first | decide | omega), xU_k _ _ _ (by first | decide | omega), xU_k _ _ _ (by first | decide | omega), E30, xU_k _ _ _ (by first | decide | omega), xU_k _ _ _ (by first | decide | omega), xU_k _ _ _ (by first | decide | omega)]; exact ⟨rfl, rfl, rfl⟩
    refine x_aload_n hx hb hl 0 rfl dX11_walk_48 rfl ?_
    refine x_goi (x_runV (As := []) hx hb hml hown hT hE hW hl.1 (Or.inl (by decide)) (so_268 h0 g _) rfl cf_X11_readsStep wq1446 wq112 wq1444 (c_X11_readsStepJ l D g T h0 s40 hW.2.1 Z9 (zRW.new (by omega) (by omega)) (zR0.new (by omega)) (Z45) q41 q42 q43 q48) ⟨rfl, rfl, ⟨by decide, by decide⟩, ⟨by decide, by decide⟩⟩ rfl rfl (Nat.le_of_ble_eq_true rfl) dX11_walk_49) hW (fun x52 s53 H locs rx52 hp54 hW => ?_)
    obtain ⟨fs53, hp54⟩ := hp54
    have hF55 := hF51.call fs53 (fun k h => by omega)
    have ghp54 := hp54.2
    have H49 := ghp54
    rw [G45, N45] at H49
    have Q49 : s53 269 = s0 269 ∧ s53 274 = s0 274 ∧ s53 275 = s0 275 := ⟨(fs53 269 (by first | decide | omega)).trans Q45.1, (fs53 274 (by first | decide | omega)).trans Q45.2.1, (fs53 275 (by first | decide | omega)).trans Q45.2.2⟩
    refine lv_istore_n (lv' := [(3, .int (xJ x52)), (0, .ref (h0 + 268)), (1, .int (xJ j)), (2, .int (xJ n))]) hx hb dX11_walk_52 rfl hl (by decide) rfl (fun ls hl => ?_)
    have L53 : ∀ (fu : Nat) (i3_53 : Int) (s_53 : xS) (H : Heap) (locs : List Loc) (ls : Array Slot), (xR i3_53) → (xFr (fun k => k = 268 ∨ k = 269 ∨ k = 274 ∨ k = 275 ∨ k = 289 ∨ k = 290 ∨ k = 291 ∨ k = 292) s0 s_53) → (IMn s_53) → (IMk s_53) → (IMo s_53) → (IR s_53) → (s_53 268 8 = s0 268 8) → (s_53 268 58 = s0 268 58) → (s_53 268 10 = n) → ((i3_53 = 0 ∧ Z9.1 ≠ 0 ∧ s_53 268 11 = Z9.1) ∨ (i3_53 = 1 ∧ zRW s_53 ∧ zR0 s_53 ∧ zWY (xm8 (s0 276)) n Z9 false (s_53 268 9) (s_53 268 34) (s_53 289) (zst s_53) ∧ (zch (xm8 (s0 276)) n (s_53 268 9) ≠ 41 ∨ s_53 268 35 = 0))) → (s_53 269 = s0 269 ∧ s_53 274 = s0 274 ∧ s_53 275 = s0 275) → (2 * (241 - s_53 268 9) + i3_53).toNat < fu → xW D g h0 s H locs s_53 → lv_has ls 5 [(0, .ref (h0 + 268)), (1, .int (xJ j)), (3, .int (xJ i3_53))] → W p l e { frames := 3, cells := 0, slots := 0, locals := 70 } s m args below meth c H locs 0 0 Q (F0 m 53 ls []) := by
      intro fu
      induction fu with
      | zero => intro i3_53 s_53 H locs ls ri3_53 hF_53 q53_0 q53_1 q53_2 q53_3 q53_4 q53_5 q53_6 v53_0 v53_1 hm; exact absurd hm (Nat.not_lt_zero _)
      | succ fu ih53 =>
        intro i3_53 s_53 H locs ls ri3_53 hF_53 q53_0 q53_1 q53_2 q53_3 q53_4 q53_5 q53_6 v53_0 v53_1 hm hW hl
        have hm_53 := fun (_ : Unit) => hm
        clear hm
        have r53 : 0 ≤ s_53 268 9 ∧ s_53 268 9 ≤ s_53 268 10 ∧ s_53 268 10 ≤ 240 := q53_3
        refine x_iload_n hx hb hl 2 rfl dX11_walk_53 rfl ?_
        have J83 : ∀ (ls : Array Slot), (i3_53 = 0 ∨ (i3_53 = 1 ∧ s_53 268 9 ≥ n ∧ s_53 268 35 ≤ 0)) → lv_has ls 5 [(0, .ref (h0 + 268)), (1, .int (xJ j)), (3, .int (xJ i3_53))] → W p l e { frames := 3, cells := 0, slots := 0, locals := 70 } s m args below meth c H locs 0 0 Q (F0 m 83 ls []) := by
          intro ls v83_0  hl
          refine x_aload_n hx hb hl 0 rfl dX11_walk_83 rfl ?_
          refine x_iconst hx hb dX11_walk_84 ?_
          refine x_put (j := 8) hx hb hown hT hE hW cls_X11 (by decide) (fun σ => so_268 h0 g σ) (by decide) (st_X11_8 h0 s_53 268 0) (ln_X11_8 h0 _ _) wq1193 rfl rfl rfl (by decide) dX11_walk_85 (fun H locs s56 es56 hW => ?_)
          have q57 : IMn s56 := by rw [es56]; exact IMn_268 q53_0 (by omega)
          have q58 : IMk s56 := by rw [es56]; exact IMk_268 q53_1 (by omega)
          have q59 : IMo s56 := by rw [es56]; exact IMo_o (by unfold suIMo; first | decide | omega) q53_2
          have q60 : IR s56 := by rw [es56]; exact IR_268 q53_3 (by omega)
          have q61 : s56 268 8 = 0 := by rw [es56, xU_s]
          have q62 : s56 268 58 = s0 268 58 := (show s56 268 58 = s_53 268 58 from by rw [es56, xU_j _ _ (by decide)]).trans q53_5
          have q63 : s56 268 10 = n := (show s56 268 10 = s_53 268 10 from by rw [es56, xU_j _ _ (by decide)]).trans q53_6
          have hF64 := hF_53.put es56 (by omega)
          have Y85 : s56 268 34 = s_53 268 34 ∧ s56 268 11 = s_53 268 11 := by rw [es56, xU_j _ _ (by decide), xU_j _ _ (by decide)]; exact ⟨rfl, rfl⟩
          have Z85 : i3_53 = 0 ∨ (0 ≤ s_53 268 34 ∧ s_53 268 34 ≤ 60) := v53_0.elim (fun q => Or.inl q.1) (fun q => Or.inr q.2.1.1)
          have Q85 : s56 269 = s0 269 ∧ s56 274 = s0 274 ∧ s56 275 = s0 275 := by rw [es56, xU_k _ _ _ (by first | decide | omega), xU_k _ _ _ (by first | decide | omega), xU_k _ _ _ (by first | decide | omega)]; exact v53_1
          have N85 : s56 289 = s_53 289 := by rw [es56, xU_k _ _ _ (by first | decide | omega)]
          refine x_iload_n hx hb hl 2 rfl dX11_walk_88 rfl ?_
          refine x_if_ne (tgt := 97) hx hb ri3_53 dX11_walk_89 (by decide) (fun c65 => ?_) (fun c65 => ?_)
          · skip
            refine x_aload_n hx hb hl 0 rfl dX11_walk_97 rfl ?_
            refine x_get (j := 5) (v := .ref (h0 + 274)) hx hb hown hT hE hW cls_X11 (Or.inl (by decide)) (so_268 h0 g _) (by decide) rfl wq1190 dX11_walk_98 ?_
            refine x_iload_n hx hb hl 1 rfl dX11_walk_101 rfl ?_
            refine x_aload_n hx hb hl 0 rfl dX11_walk_102 rfl ?_
            refine x_get (j := 34) (v := .int (xJ (s56 268 34))) hx hb hown hT hE hW cls_X11 (Or.inl (by decide)) (so_268 h0 g _) (by decide) rfl wq1219 dX11_walk_103 ?_
            refine x_rd hW (fun x66 ex66 rx66 => ?_)
            refine x_iast hx hb hE hW (by decide) (fun σ => sa_274 h0 g σ) (by omega) (by decide) rx66 dX11_walk_106 (fun H locs s67 es67 hW => ?_)
            have q68 : IMn s67 := by rw [es67]; exact IMn_274 q57 (by omega)
            have q69 : IMk s67 := by rw [es67]; exact IMk_o (by unfold suIMk; first | decide | omega) q58
            have q70 : IMo s67 := by rw [es67]; exact IMo_o (by unfold suIMo; first | decide | omega) q59
            have q71 : IR s67 := by rw [es67]; exact IR_o (by unfold suIR; first | decide | omega) q60
            have q72 : s67 268 8 = 0 := (show s67 268 8 = s56 268 8 from by rw [es67, xU_k _ _ _ (by first | decide | omega)]).trans q61
            have q73 : s67 268 58 = s0 268 58 := (show s67 268 58 = s56 268 58 from by rw [es67, xU_k _ _ _ (by first | decide | omega)]).trans q62
            have q74 : s67 268 10 = n := (show s67 268 10 = s56 268 10 from by rw [es67, xU_k _ _ _ (by first | decide | omega)]).trans q63
            have hF75 := hF64.put es67 (by omega)
            have Y106 : s67 268 34 = s_53 268 34 := by rw [es67, xU_k _ _ _ (by first | decide | omega)]; exact Y85.1
            have R106 : s67 269 = s0 269 ∧ s67 274 = xud (s0 274) j (s_53 268 34) ∧ s67 275 = s0 275 ∧ s67 289 = s_53 289 := ⟨by rw [es67, xU_k _ _ _ (by first | decide | omega)]; exact Q85.1, by rw [es67, xU_xud, Q85.2.1]; congr 1; omega, by rw [es67, xU_k _ _ _ (by first | decide | omega)]; exact Q85.2.2, by rw [es67, xU_k _ _ _ (by first | decide | omega)]; exact N85⟩
            have Y9 := (v53_0.resolve_left (fun q => absurd q.1 (by omega))).2
            have b9 := Y9.2.2.1.bb
            refine x_aload_n hx hb hl 0 rfl dX11_walk_107 rfl ?_
            refine x_get (j := 0) (v := .ref (h0 + 269)) hx hb hown hT hE hW cls_X11 (Or.inl (by decide)) (so_268 h0 g _) (by decide) rfl wq1185 dX11_walk_108 ?_
            refine x_iconst hx hb dX11_walk_111 ?_
            refine x_iload_n hx hb hl 1 rfl dX11_walk_112 rfl ?_
            refine x_iadd hx hb dX11_walk_113 ?_
            refine x_iconst hx hb dX11_walk_114 ?_
            refine x_iast hx hb hE hW (by decide) (fun σ => sa_269 h0 g σ) (by omega) (by decide) (by decide) dX11_walk_115 (fun H locs s76 es76 hW => ?_)
            have q77 : IMn s76 := by rw [es76]; exact IMn_N269 q68 (by omega)
            have q78 : IMk s76 := by rw [es76]; exact IMk_o (by unfold suIMk; first | decide | omega) q69
            have q79 : IMo s76 := by rw [es76]; exact IMo_o (by unfold suIMo; first | decide | omega) q70
            have q80 : IR s76 := by rw [es76]; exact IR_o (by unfold suIR; first | decide | omega) q71
            have q81 : s76 268 8 = 0 := (show s76 268 8 = s67 268 8 from by rw [es76, xU_k _ _ _ (by first | decide | omega)]).trans q72
            have q82 : s76 268 58 = s0 268 58 := (show s76 268 58 = s67 268 58 from by rw [es76, xU_k _ _ _ (by first | decide | omega)]).trans q73
            have q83 : s76 268 10 = n := (show s76 268 10 = s67 268 10 from by rw [es76, xU_k _ _ _ (by first | decide | omega)]).trans q74
            have hF84 := hF75.put es76 (by omega)
            have Y115 : s76 268 34 = s_53 268 34 := by rw [es76, xU_k _ _ _ (by first | decide | omega)]; exact Y106
            have R115 : s76 269 = xud (s0 269) (2 + j) 0 ∧ s76 274 = xud (s0 274) j (s_53 268 34) ∧ s76 275 = s0 275 ∧ s76 289 = s_53 289 := ⟨by rw [es76, xU_xud, R106.1], by rw [es76, xU_k _ _ _ (by first | decide | omega)]; exact R106.2.1, by rw [es76, xU_k _ _ _ (by first | decide | omega)]; exact R106.2.2.1, by rw [es76, xU_k _ _ _ (by first | decide | omega)]; exact R106.2.2.2⟩
            refine x_iconst hx hb dX11_walk_116 ?_
            refine lv_istore (lv' := [(4, .int (xJ 0)), (0, .ref (h0 + 268)), (1, .int (xJ j)), (3, .int (xJ i3_53))]) hx hb dX11_walk_117 hl (by decide) rfl (fun ls hl => ?_)
            have L119 : ∀ (fu : Nat) (i4_119 : Int) (s_119 : xS) (H : Heap) (locs : List Loc) (ls : Array Slot), (xR i4_119) → (xFr (fun k => k = 268 ∨ k = 269 ∨ k = 274 ∨ k = 275 ∨ k = 289 ∨ k = 290 ∨ k = 291 ∨ k = 292) s0 s_119) → (IMn s_119) → (IMk s_119) → (IMo s_119) → (IR s_119) → (s_119 268 8 = 0) → (s_119 268 58 = s0 268 58) → (s_119 268 10 = n) → (0 ≤ i4_119) → (s_119 268 34 = s_53 268 34) → (s_119 269 = xud (s0 269) (2 + j) 0 ∧ s_119 274 = xud (s0 274) j (s_53 268 34) ∧ s_119 289 = s_53 289) → (∀ i : Int, 0 ≤ i → i < i4_119 → s_119 275 (60 * j + i) = s_53 289 i) → (∀ i : Int, (i < 60 * j ∨ 60 * j + 60 ≤ i) → s_119 275 i = s0 275 i) → ((∀ i : Int, 0 ≤ i → i < 120 → 0 ≤ s0 275 i ∧ s0 275 i ≤ 8) → ∀ i : Int, 0 ≤ i → i < 120 → 0 ≤ s_119 275 i ∧ s_119 275 i ≤ 8) → (60 - i4_119).toNat < fu → xW D g h0 s H locs s_119 → lv_has ls 5 [(0, .ref (h0 + 268)), (1, .int (xJ j)), (4, .int (xJ i4_119))] → W p l e { frames := 3, cells := 0, slots := 0, locals := 70 } s m args below meth c H locs 0 0 Q (F0 m 119 ls []) := by
              intro fu
              induction fu with
              | zero => intro i4_119 s_119 H locs ls ri4_119 hF_119 q119_0 q119_1 q119_2 q119_3 q119_4 q119_5 q119_6 v119_0 v119_1 v119_2 v119_3 v119_4 v119_5 hm; exact absurd hm (Nat.not_lt_zero _)
              | succ fu ih119 =>
                intro i4_119 s_119 H locs ls ri4_119 hF_119 q119_0 q119_1 q119_2 q119_3 q119_4 q119_5 q119_6 v119_0 v119_1 v119_2 v119_3 v119_4 v119_5 hm hW hl
                have hm_119 := fun (_ : Unit) => hm
                clear hm
                refine x_iload hx hb hl 2 rfl dX11_walk_119 ?_
                refine x_aload_n hx hb hl 0 rfl dX11_walk_121 rfl ?_
                refine x_get (j := 34) (v := .int (xJ (s_119 268 34))) hx hb hown hT hE hW cls_X11 (Or.inl (by decide)) (so_268 h0 g _) (by decide) rfl wq1219 dX11_walk_122 ?_
                refine x_rd hW (fun x85 ex85 rx85 => ?_)
                refine x_icmp_ge (tgt := 153) hx hb ri4_119 rx85 dX11_walk_125 (by decide) (fun c86 => ?_) (fun c86 => ?_)
                · skip
                  refine x_aload_n hx hb hl 0 rfl dX11_walk_153 rfl ?_
                  refine x_get (j := 34) (v := .int (xJ (s_119 268 34))) hx hb hown hT hE hW cls_X11 (Or.inl (by decide)) (so_268 h0 g _) (by decide) rfl wq1219 dX11_walk_154 ?_
                  refine x_rd hW (fun x87 ex87 rx87 => ?_)
                  rw [eQ]
                  exact x_iret hx hb hr hlk hW rx87 ⟨hF_119, ⟨q119_0, q119_1, q119_2, q119_5, trivial⟩, by
                      rw [← eZ9]
                      have z := (v53_0.resolve_left (fun q => absurd q.1 (by omega))).2
                      have L9 := zst_l (σ := s_53) z.1.2.1
                      have z12 := z.1.2.1
                      have h9 : s_53 268 9 = n ∧ s_53 268 35 = 0 := by clear v53_0 H49 Z85; omega
                      clear v53_0 H49 Z85 v83_0
                      have y := z.2.2.1.fin0 (by omega) h9.1
                      exact Or.inr ⟨hN, by omega, Or.inr ⟨y.1, by omega, by rw [y.2.1]; exact v119_2.2.1, v119_2.1, by
                        rw [y.2.1]
                        intro i i1 i2
                        have q := y.2.2 i i1 i2
                        show s_119 275 (60 * j + i) = _ ∧ _
                        rw [v119_3 i i1 (by omega)]
                        exact q, v119_4, v119_5⟩⟩⟩ dX11_walk_157
                refine x_aload_n hx hb hl 0 rfl dX11_walk_128 rfl ?_
                refine x_get (j := 6) (v := .ref (h0 + 275)) hx hb hown hT hE hW cls_X11 (Or.inl (by decide)) (so_268 h0 g _) (by decide) rfl wq1191 dX11_walk_129 ?_
                refine x_bipush hx hb dX11_walk_132 (by decide) ?_
                refine x_iload_n hx hb hl 1 rfl dX11_walk_134 rfl ?_
                refine x_imul hx hb dX11_walk_135 ?_
                refine x_iload hx hb hl 2 rfl dX11_walk_136 ?_
                refine x_iadd hx hb dX11_walk_138 ?_
                refine x_aload_n hx hb hl 0 rfl dX11_walk_139 rfl ?_
                refine x_get (j := 30) (v := .ref (h0 + 289)) hx hb hown hT hE hW cls_X11 (Or.inl (by decide)) (so_268 h0 g _) (by decide) rfl wq1215 dX11_walk_140 ?_
                refine x_iload hx hb hl 2 rfl dX11_walk_143 ?_
                refine x_bald hx hb hE hW (Or.inl (by decide)) (sa_289 h0 g _) (by omega) (by decide) dX11_walk_145 ?_
                refine x_rd hW (fun x88 ex88 rx88 => ?_)
                have V145 : x88 = s_53 289 i4_119 := ex88.trans (congrFun v119_2.2.2 _)
                obtain ⟨y90, ey90, ry90, my90, by90⟩ := xnbm (v := x88) rx88
                refine x_bast (w := y90) hx hb hE hW (by decide) (fun σ => sa_275 h0 g σ) (by omega) (by decide) ey90 ry90 dX11_walk_146 (fun H locs s89 es89 hW => ?_)
                have q91 : IMn s89 := by rw [es89]; exact IMn_o (by unfold suIMn; first | decide | omega) q119_0
                have q92 : IMk s89 := by rw [es89]; exact IMk_o (by unfold suIMk; first | decide | omega) q119_1
                have q93 : IMo s89 := by rw [es89]; exact IMo_o (by unfold suIMo; first | decide | omega) q119_2
                have q94 : IR s89 := by rw [es89]; exact IR_o (by unfold suIR; first | decide | omega) q119_3
                have q95 : s89 268 8 = 0 := (show s89 268 8 = s_119 268 8 from by rw [es89, xU_k _ _ _ (by first | decide | omega)]).trans q119_4
                have q96 : s89 268 58 = s0 268 58 := (show s89 268 58 = s_119 268 58 from by rw [es89, xU_k _ _ _ (by first | decide | omega)]).trans q119_5
                have q97 : s89 268 10 = n := (show s89 268 10 = s_119 268 10 from by rw [es89, xU_k _ _ _ (by first | decide | omega)]).trans q119_6
                have hF98 := hF_119.put es89 (by omega)
                have E146 := es89
                have A146 : s89 275 = xud (s_119 275) (60 * j + i4_119) (s_53 289 i4_119) := by
                  have r := b9 i4_119 (by omega) (by omega)
                  rw [es89, xU_xud]
                  congr 1
                  omega
                refine x_iinc (lv' := [(4, .int (xJ (i4_119 + 1))), (0, .ref (h0 + 268)), (1, .int (xJ j))]) hx hb hl 2 rfl dX11_walk_147 (by decide) rfl (fun ls hl => ?_)
                refine lv_goto (tgt := 119) hx hb dX11_walk_150 (by decide) ?_
                exact ih119 (i4_119 + 1) s89 H locs ls (by omega) hF98 q91 q92 q93 q94 q95 q96 q97 (by omega) (by rw [es89, xU_k _ _ _ (by first | decide | omega)]; exact v119_1) (by rw [E146, xU_k _ _ _ (by first | decide | omega), xU_k _ _ _ (by first | decide | omega), xU_k _ _ _ (by first | decide | omega)]; exact v119_2) (fun i i1 i2 => by
                    rw [A146]
                    by_cases h : i = i4_119
                    · subst h; rw [xud_s]
                    · rw [xud_o _ _ (by omega)]; exact v119_3 i i1 (by omega)) (fun i h => by rw [A146, xud_o _ _ (by omega)]; exact v119_4 i h) (fun h i i1 i2 => by
                    rw [A146]
                    by_cases e : i = 60 * j + i4_119
                    · rw [e, xud_s]; exact b9 _ (by omega) (by omega)
                    · rw [xud_o _ _ e]; exact v119_5 h i i1 i2) (by have hm := hm_119 (); omega) hW (lv_sub hl [1, 2, 0] rfl)
            exact L119 ((60 - 0 : Int).toNat + 1) 0 s76 H locs ls (by decide) hF84 q77 q78 q79 q80 q81 q82 q83 (by omega) (Y115) (⟨R115.1, R115.2.1, R115.2.2.2⟩) (fun i i1 i2 => absurd i2 (by omega)) (fun i _ => by rw [R115.2.2.1]) (fun h i i1 i2 => by rw [R115.2.2.1]; exact h i i1 i2) (Nat.lt_succ_self _) hW (lv_sub hl [1, 2, 0] rfl)
          refine x_aload_n hx hb hl 0 rfl dX11_walk_92 rfl ?_
          refine x_get (j := 11) (v := .int (xJ (s56 268 11))) hx hb hown hT hE hW cls_X11 (Or.inl (by decide)) (so_268 h0 g _) (by decide) rfl wq1196 dX11_walk_93 ?_
          refine x_rd hW (fun x99 ex99 rx99 => ?_)
          rw [eQ]
          exact x_iret hx hb hr hlk hW rx99 ⟨hF64, ⟨q57, q58, q59, q62, trivial⟩, by
              rw [← eZ9]
              have z := v53_0.resolve_right (fun q => absurd q.1 (by omega))
              clear v53_0 H49 Z85 v83_0
              exact Or.inr ⟨hN, by omega, Or.inl ⟨z.2.1, by omega, Q85⟩⟩⟩ dX11_walk_96
        refine x_if_eq (tgt := 83) hx hb ri3_53 dX11_walk_54 (by decide) (fun c100 => ?_) (fun c100 => ?_)
        · skip
          exact J83 ls (by omega)  (lv_sub hl [0, 1, 2] rfl)
        refine x_aload_n hx hb hl 0 rfl dX11_walk_57 rfl ?_
        refine x_get (j := 9) (v := .int (xJ (s_53 268 9))) hx hb hown hT hE hW cls_X11 (Or.inl (by decide)) (so_268 h0 g _) (by decide) rfl wq1194 dX11_walk_58 ?_
        refine x_rd hW (fun x101 ex101 rx101 => ?_)
        have bx101 : 0 ≤ x101 ∧ x101 ≤ s_53 268 10 ∧ s_53 268 10 ≤ 240 := by rw [ex101]; exact q53_3
        refine x_aload_n hx hb hl 0 rfl dX11_walk_61 rfl ?_
        refine x_get (j := 10) (v := .int (xJ (s_53 268 10))) hx hb hown hT hE hW cls_X11 (Or.inl (by decide)) (so_268 h0 g _) (by decide) rfl wq1195 dX11_walk_62 ?_
        refine x_rd hW (fun x102 ex102 rx102 => ?_)
        have fx102 : x102 = n := ex102.trans q53_6
        refine x_icmp_lt (tgt := 75) hx hb rx101 rx102 dX11_walk_65 (by decide) (fun c103 => ?_) (fun c103 => ?_)
        · skip
          refine x_aload_n hx hb hl 0 rfl dX11_walk_75 rfl ?_
          refine x_goi (x_runV (As := []) hx hb hml hown hT hE hW hl.1 (Or.inl (by decide)) (so_268 h0 g _) rfl cf_X11_readsStep wq1446 wq112 wq1444 (c_X11_readsStepJ l D g T h0 s_53 hW.2.1 Z9 ((v53_0.resolve_left (fun q => by omega)).2.1) ((v53_0.resolve_left (fun q => by omega)).2.2.1) (by
              have L9 := zst_l (σ := s_53) (v53_0.resolve_left (fun q => by omega)).2.1.2.1
              have V9 := (v53_0.resolve_left (fun q => by omega)).2.2.2.1
              have E9 := (v53_0.resolve_left (fun q => by omega)).2.2.2.2
              rw [hF_53 276 (by first | decide | omega), show s_53 268 10 = n from by omega]
              by_cases e9 : s_53 268 35 = 0
              · exact V9.more0 (by omega) (by omega)
              · exact V9.moreN (by omega) (by omega) (by omega)) q53_0 q53_1 q53_2 q53_3) ⟨rfl, rfl, ⟨by decide, by decide⟩, ⟨by decide, by decide⟩⟩ rfl rfl (Nat.le_of_ble_eq_true rfl) dX11_walk_76) hW (fun x104 s105 H locs rx104 hp106 hW => ?_)
          obtain ⟨fs105, hp106⟩ := hp106
          have hF107 := hF_53.call fs105 (fun k h => by omega)
          have ghp106 := hp106.2
          have H76 := ghp106
          rw [hF_53 276 (by first | decide | omega), show s_53 268 10 = n from by omega] at H76
          have r76 : 0 ≤ s105 268 9 ∧ s105 268 9 ≤ s105 268 10 ∧ s105 268 10 ≤ 240 := hp106.1.2.2.2.1
          have Q76 : s105 269 = s0 269 ∧ s105 274 = s0 274 ∧ s105 275 = s0 275 := ⟨(fs105 269 (by first | decide | omega)).trans v53_1.1, (fs105 274 (by first | decide | omega)).trans v53_1.2.1, (fs105 275 (by first | decide | omega)).trans v53_1.2.2⟩
          refine lv_istore_n (lv' := [(3, .int (xJ x104)), (0, .ref (h0 + 268)), (1, .int (xJ j))]) hx hb dX11_walk_79 rfl hl (by decide) rfl (fun ls hl => ?_)
          refine lv_goto (tgt := 53) hx hb dX11_walk_80 (by decide) ?_
          exact ih53 x104 s105 H locs ls rx104 hF107 hp106.1.1 hp106.1.2.1 hp106.1.2.2.1 hp106.1.2.2.2.1 (hp106.1.2.2.2.2.1.trans q53_4) (hp106.1.2.2.2.2.2.1.trans q53_5) (hp106.1.2.2.2.2.2.2.1.trans q53_6) (H76.elim (fun q => Or.inl ⟨q.1, q.2.2.1, q.2.2.2⟩) (fun q => Or.inr ⟨q.1, q.2.1, q.2.2.1, q.2.2.2.2.1, q.2.2.2.2.2⟩)) (Q76) (by have hm := hm_53 (); omega) hW (lv_sub hl [1, 2, 0] rfl)
        refine x_aload_n hx hb hl 0 rfl dX11_walk_68 rfl ?_
        refine x_get (j := 35) (v := .int (xJ (s_53 268 35))) hx hb hown hT hE hW cls_X11 (Or.inl (by decide)) (so_268 h0 g _) (by decide) rfl wq1220 dX11_walk_69 ?_
        refine x_rd hW (fun x108 ex108 rx108 => ?_)
        refine x_if_le (tgt := 83) hx hb rx108 dX11_walk_72 (by decide) (fun c109 => ?_) (fun c109 => ?_)
        · skip
          exact J83 ls (by omega)  (lv_sub hl [0, 1, 2] rfl)
        refine x_aload_n hx hb hl 0 rfl dX11_walk_75 rfl ?_
        refine x_goi (x_runV (As := []) hx hb hml hown hT hE hW hl.1 (Or.inl (by decide)) (so_268 h0 g _) rfl cf_X11_readsStep wq1446 wq112 wq1444 (c_X11_readsStepJ l D g T h0 s_53 hW.2.1 Z9 ((v53_0.resolve_left (fun q => by omega)).2.1) ((v53_0.resolve_left (fun q => by omega)).2.2.1) (by
            have L9 := zst_l (σ := s_53) (v53_0.resolve_left (fun q => by omega)).2.1.2.1
            have V9 := (v53_0.resolve_left (fun q => by omega)).2.2.2.1
            have E9 := (v53_0.resolve_left (fun q => by omega)).2.2.2.2
            rw [hF_53 276 (by first | decide | omega), show s_53 268 10 = n from by omega]
            by_cases e9 : s_53 268 35 = 0
            · exact V9.more0 (by omega) (by omega)
            · exact V9.moreN (by omega) (by omega) (by omega)) q53_0 q53_1 q53_2 q53_3) ⟨rfl, rfl, ⟨by decide, by decide⟩, ⟨by decide, by decide⟩⟩ rfl rfl (Nat.le_of_ble_eq_true rfl) dX11_walk_76) hW (fun x110 s111 H locs rx110 hp112 hW => ?_)
        obtain ⟨fs111, hp112⟩ := hp112
        have hF113 := hF_53.call fs111 (fun k h => by omega)
        have ghp112 := hp112.2
        have H76 := ghp112
        rw [hF_53 276 (by first | decide | omega), show s_53 268 10 = n from by omega] at H76
        have r76 : 0 ≤ s111 268 9 ∧ s111 268 9 ≤ s111 268 10 ∧ s111 268 10 ≤ 240 := hp112.1.2.2.2.1
        have Q76 : s111 269 = s0 269 ∧ s111 274 = s0 274 ∧ s111 275 = s0 275 := ⟨(fs111 269 (by first | decide | omega)).trans v53_1.1, (fs111 274 (by first | decide | omega)).trans v53_1.2.1, (fs111 275 (by first | decide | omega)).trans v53_1.2.2⟩
        refine lv_istore_n (lv' := [(3, .int (xJ x110)), (0, .ref (h0 + 268)), (1, .int (xJ j))]) hx hb dX11_walk_79 rfl hl (by decide) rfl (fun ls hl => ?_)
        refine lv_goto (tgt := 53) hx hb dX11_walk_80 (by decide) ?_
        exact ih53 x110 s111 H locs ls rx110 hF113 hp112.1.1 hp112.1.2.1 hp112.1.2.2.1 hp112.1.2.2.2.1 (hp112.1.2.2.2.2.1.trans q53_4) (hp112.1.2.2.2.2.2.1.trans q53_5) (hp112.1.2.2.2.2.2.2.1.trans q53_6) (H76.elim (fun q => Or.inl ⟨q.1, q.2.2.1, q.2.2.2⟩) (fun q => Or.inr ⟨q.1, q.2.1, q.2.2.1, q.2.2.2.2.1, q.2.2.2.2.2⟩)) (Q76) (by have hm := hm_53 (); omega) hW (lv_sub hl [1, 2, 0] rfl)
    exact L53 ((2 * (241 - s53 268 9) + x52 : Int).toNat + 1) x52 s53 H locs ls rx52 hF55 hp54.1.1 hp54.1.2.1 hp54.1.2.2.1 hp54.1.2.2.2.1 (hp54.1.2.2.2.2.1.trans q45) (hp54.1.2.2.2.2.2.1.trans q44) (hp54.1.2.2.2.2.2.2.1.trans q47) (H49.elim (fun q => Or.inl ⟨q.1, q.2.2.1, q.2.2.2⟩) (fun q => Or.inr ⟨q.1, q.2.1, q.2.2.1, q.2.2.2.2.1, q.2.2.2.2.2⟩)) (Q49) (Nat.lt_succ_self _) hW (lv_sub hl [1, 2, 0] rfl)
  refine x_iconst hx hb dX11_walk_26 ?_
  rw [eQ]
  exact x_iret hx hb hr hlk hW (by decide) ⟨hF, ⟨p0, p1, p2, k268_58, trivial⟩, Or.inl ⟨by omega, by omega, by omega, rfl, rfl, rfl⟩⟩ dX11_walk_27
