set_option maxHeartbeats 4000000 in
set_option maxRecDepth 100000 in
theorem c_X11_bindsM (l : Launch) (D : va_G) (g : xG) (T : Nat × Nat × Nat) (h0 : Nat) (s0 : xS) (hσ : xRR s0) (a : Int) (ra : xR a) (b : Int) (rb : xR b) (n : Int) (rn : xR n) (hab : (0 ≤ a ∧ a ≤ 7) ∧ (0 ≤ b ∧ b ≤ 7) ∧ n ≤ 8) (p0 : IMn s0) (p1 : IMk s0) (p2 : IMo s0) : Met l yX11_binds (xws yX11_binds cX11_binds 7 none) { frames := 1, cells := 0, slots := 0, locals := 21 } (xP [.ref (h0 + 268), .int (xJ a), .int (xJ b), .int (xJ n)] D g T h0 s0) (xQv D g h0 (fun τ => xFr (fun k => k = 306) s0 τ ∧ (((IMn τ) ∧ (IMk τ) ∧ (IMo τ) ∧ True) ∧ (∃ lo hi, ((lo = s0 306 a ∧ s0 306 a < s0 306 b) ∨ (lo = s0 306 b ∧ s0 306 b ≤ s0 306 a)) ∧ ((hi = s0 306 a ∧ s0 306 b < s0 306 a) ∨ (hi = s0 306 b ∧ s0 306 a ≤ s0 306 b)) ∧ ∀ q : Int, 0 ≤ q → q < n → τ 306 q = jn lo hi (s0 306) q)))) 0 0 (xA h0) := by
  refine x_met hσ (by decide) (Nat.le_of_ble_eq_true rfl) ?_
  intro p e s m args below meth c hx hb hr hml hown hT hlk hnm hE hW ls hl
  have hl : lv_has ls 7 [(0, .ref (h0 + 268)), (1, .int (xJ a)), (2, .int (xJ b)), (3, .int (xJ n))] := hl
  obtain ⟨Q, eQ⟩ : ∃ Q, Q = MQ below (xQv D g h0 (fun τ => xFr (fun k => k = 306) s0 τ ∧ (((IMn τ) ∧ (IMk τ) ∧ (IMo τ) ∧ True) ∧ (∃ lo hi, ((lo = s0 306 a ∧ s0 306 a < s0 306 b) ∨ (lo = s0 306 b ∧ s0 306 b ≤ s0 306 a)) ∧ ((hi = s0 306 a ∧ s0 306 b < s0 306 a) ∨ (hi = s0 306 b ∧ s0 306 a ≤ s0 306 b)) ∧ ∀ q : Int, 0 ≤ q → q < n → τ 306 q = jn lo hi (s0 306) q)))) args s 0 0 (xA h0) := ⟨_, rfl⟩
  rw [← eQ]
  generalize hHe : ([] : List Loc) = locs at hW ⊢
  obtain ⟨H, eH⟩ : ∃ H, H = s.heap := ⟨_, rfl⟩
  rw [← eH] at hW ⊢
  have hF : xFr (fun k => k = 306) s0 s0 := xFr.rf
  have k268_8 : s0 268 8 = s0 268 8 := rfl
  have k268_58 : s0 268 58 = s0 268 58 := rfl
  refine x_aload_n hx hb hl 0 rfl dX11_binds_0 rfl ?_
  refine x_get (j := 56) (v := .ref (h0 + 306)) hx hb hown hT hE hW cls_X11 (Or.inl (by decide)) (so_268 h0 g _) (by decide) rfl wq1241 dX11_binds_1 ?_
  refine x_iload_n hx hb hl 1 rfl dX11_binds_4 rfl ?_
  refine x_iald hx hb hE hW (Or.inl (by decide)) (sa_306 h0 g _) (by omega) (by decide) dX11_binds_5 ?_
  refine x_rd hW (fun x1 ex1 rx1 => ?_)
  have bx1 : 0 ≤ x1 ∧ x1 ≤ 7 := by rw [ex1]; exact IMo.b p2 _ (by omega) (by omega)
  refine x_aload_n hx hb hl 0 rfl dX11_binds_6 rfl ?_
  refine x_get (j := 56) (v := .ref (h0 + 306)) hx hb hown hT hE hW cls_X11 (Or.inl (by decide)) (so_268 h0 g _) (by decide) rfl wq1241 dX11_binds_7 ?_
  refine x_iload_n hx hb hl 2 rfl dX11_binds_10 rfl ?_
  refine x_iald hx hb hE hW (Or.inl (by decide)) (sa_306 h0 g _) (by omega) (by decide) dX11_binds_11 ?_
  refine x_rd hW (fun x2 ex2 rx2 => ?_)
  have bx2 : 0 ≤ x2 ∧ x2 ≤ 7 := by rw [ex2]; exact IMo.b p2 _ (by omega) (by omega)
  refine x_goi (x_runS (As := [.int (xJ x1), .int (xJ x2)]) hx hb hml hown hT hE hW hl.1 cf_X11_min wq1640 wq1639 (c_X11_min l D g T h0 s0 hW.2.1 x1 rx1 x2 rx2) ⟨rfl, rfl, ⟨by decide, by decide⟩, ⟨by decide, by decide⟩⟩ rfl rfl (Nat.le_of_ble_eq_true rfl) dX11_binds_12) hW (fun x3 s4 H locs rx3 hp5 hW => ?_)
  obtain ⟨es4, hp5⟩ := hp5
  subst es4
  have ghp5 := hp5
  refine lv_istore (lv' := [(4, .int (xJ x3)), (0, .ref (h0 + 268)), (1, .int (xJ a)), (2, .int (xJ b)), (3, .int (xJ n))]) hx hb dX11_binds_15 hl (by decide) rfl (fun ls hl => ?_)
  refine x_aload_n hx hb hl 1 rfl dX11_binds_17 rfl ?_
  refine x_get (j := 56) (v := .ref (h0 + 306)) hx hb hown hT hE hW cls_X11 (Or.inl (by decide)) (so_268 h0 g _) (by decide) rfl wq1241 dX11_binds_18 ?_
  refine x_iload_n hx hb hl 2 rfl dX11_binds_21 rfl ?_
  refine x_iald hx hb hE hW (Or.inl (by decide)) (sa_306 h0 g _) (by omega) (by decide) dX11_binds_22 ?_
  refine x_rd hW (fun x6 ex6 rx6 => ?_)
  have bx6 : 0 ≤ x6 ∧ x6 ≤ 7 := by rw [ex6]; exact IMo.b p2 _ (by omega) (by omega)
  refine x_aload_n hx hb hl 1 rfl dX11_binds_23 rfl ?_
  refine x_get (j := 56) (v := .ref (h0 + 306)) hx hb hown hT hE hW cls_X11 (Or.inl (by decide)) (so_268 h0 g _) (by decide) rfl wq1241 dX11_binds_24 ?_
  refine x_iload_n hx hb hl 3 rfl dX11_binds_27 rfl ?_
  refine x_iald hx hb hE hW (Or.inl (by decide)) (sa_306 h0 g _) (by omega) (by decide) dX11_binds_28 ?_
  refine x_rd hW (fun x7 ex7 rx7 => ?_)
  have bx7 : 0 ≤ x7 ∧ x7 ≤ 7 := by rw [ex7]; exact IMo.b p2 _ (by omega) (by omega)
  refine x_goi (x_runS (As := [.int (xJ x6), .int (xJ x7)]) hx hb hml hown hT hE hW hl.1 cf_X11_max wq1677 wq1676 (c_X11_max l D g T h0 s0 hW.2.1 x6 rx6 x7 rx7) ⟨rfl, rfl, ⟨by decide, by decide⟩, ⟨by decide, by decide⟩⟩ rfl rfl (Nat.le_of_ble_eq_true rfl) dX11_binds_29) hW (fun x8 s9 H locs rx8 hp10 hW => ?_)
  obtain ⟨es9, hp10⟩ := hp10
  subst es9
  have ghp10 := hp10
  refine lv_istore (lv' := [(5, .int (xJ x8)), (4, .int (xJ x3)), (0, .ref (h0 + 268)), (1, .int (xJ a)), (2, .int (xJ b)), (3, .int (xJ n))]) hx hb dX11_binds_32 hl (by decide) rfl (fun ls hl => ?_)
  refine x_iconst hx hb dX11_binds_34 ?_
  refine lv_istore (lv' := [(6, .int (xJ 0)), (5, .int (xJ x8)), (4, .int (xJ x3)), (0, .ref (h0 + 268)), (1, .int (xJ a)), (2, .int (xJ b)), (3, .int (xJ n))]) hx hb dX11_binds_35 hl (by decide) rfl (fun ls hl => ?_)
  have L37 : ∀ (fu : Nat) (i6_37 : Int) (s_37 : xS) (H : Heap) (locs : List Loc) (ls : Array Slot), (xR i6_37) → (xFr (fun k => k = 306) s0 s_37) → (IMn s_37) → (IMk s_37) → (IMo s_37) → (s_37 268 8 = s0 268 8) → (s_37 268 58 = s0 268 58) → (0 ≤ i6_37) → (∀ q : Int, 0 ≤ q → q < i6_37 → s_37 306 q = jn x3 x8 (s0 306) q) → (∀ q : Int, i6_37 ≤ q → s_37 306 q = s0 306 q) → (8 - i6_37).toNat < fu → xW D g h0 s H locs s_37 → lv_has ls 7 [(0, .ref (h0 + 268)), (3, .int (xJ n)), (4, .int (xJ x3)), (5, .int (xJ x8)), (6, .int (xJ i6_37))] → W p l e { frames := 1, cells := 0, slots := 0, locals := 21 } s m args below meth c H locs 0 0 Q (F0 m 37 ls []) := by
    intro fu
    induction fu with
    | zero => intro i6_37 s_37 H locs ls ri6_37 hF_37 q37_0 q37_1 q37_2 q37_3 q37_4 v37_0 v37_1 v37_2 hm; exact absurd hm (Nat.not_lt_zero _)
    | succ fu ih37 =>
      intro i6_37 s_37 H locs ls ri6_37 hF_37 q37_0 q37_1 q37_2 q37_3 q37_4 v37_0 v37_1 v37_2 hm hW hl
      refine x_iload hx hb hl 4 rfl dX11_binds_37 ?_
      refine x_iload_n hx hb hl 1 rfl dX11_binds_39 rfl ?_
      refine x_icmp_ge (tgt := 70) hx hb ri6_37 rn dX11_binds_40 (by decide) (fun c11 => ?_) (fun c11 => ?_)
      · skip
        rw [eQ]
        exact x_vret hx hb hr hlk hW ⟨hF_37, ⟨q37_0, q37_1, q37_2, trivial⟩, ⟨x3, x8, by omega, by omega, fun q q1 q2 => v37_1 q q1 (by omega)⟩⟩ dX11_binds_70
      refine x_aload_n hx hb hl 0 rfl dX11_binds_43 rfl ?_
      refine x_get (j := 56) (v := .ref (h0 + 306)) hx hb hown hT hE hW cls_X11 (Or.inl (by decide)) (so_268 h0 g _) (by decide) rfl wq1241 dX11_binds_44 ?_
      refine x_iload hx hb hl 4 rfl dX11_binds_47 ?_
      refine x_iald hx hb hE hW (Or.inl (by decide)) (sa_306 h0 g _) (by omega) (by decide) dX11_binds_49 ?_
      refine x_rd hW (fun x12 ex12 rx12 => ?_)
      have bx12 : 0 ≤ x12 ∧ x12 ≤ 7 := by rw [ex12]; exact IMo.b q37_2 _ (by omega) (by omega)
      have V49 : x12 = s0 306 i6_37 := by rw [ex12]; exact v37_2 i6_37 (by omega)
      refine x_iload hx hb hl 3 rfl dX11_binds_50 ?_
      refine x_icmp_ne (tgt := 64) hx hb rx12 rx8 dX11_binds_52 (by decide) (fun c13 => ?_) (fun c13 => ?_)
      · skip
        refine x_iinc (lv' := [(6, .int (xJ (i6_37 + 1))), (0, .ref (h0 + 268)), (3, .int (xJ n)), (4, .int (xJ x3)), (5, .int (xJ x8))]) hx hb hl 4 rfl dX11_binds_64 (by decide) rfl (fun ls hl => ?_)
        refine lv_goto (tgt := 37) hx hb dX11_binds_67 (by decide) ?_
        exact ih37 (i6_37 + 1) s_37 H locs ls (by omega) hF_37 q37_0 q37_1 q37_2 q37_3 q37_4 (by omega) (by first | exact fun q q1 q2 => (Classical.em (q < i6_37)).elim (fun h => by rw [E63, xU_j _ _ (by omega)]; exact v37_1 q q1 h) (fun h => by rw [show q = i6_37 from by omega, E63, xU_s]; unfold jn; rw [if_pos (by omega)]) | exact fun q q1 q2 => (Classical.em (q < i6_37)).elim (fun h => v37_1 q q1 h) (fun h => by rw [show q = i6_37 from by omega, v37_2 i6_37 (by omega)]; unfold jn; rw [if_neg (by omega)])) (by first | exact fun q q1 => by rw [E63, xU_j _ _ (by omega)]; exact v37_2 q (by omega) | exact fun q q1 => v37_2 q (by omega)) (by omega) hW (lv_sub hl [1, 2, 3, 4, 0] rfl)
      refine x_aload_n hx hb hl 0 rfl dX11_binds_55 rfl ?_
      refine x_get (j := 56) (v := .ref (h0 + 306)) hx hb hown hT hE hW cls_X11 (Or.inl (by decide)) (so_268 h0 g _) (by decide) rfl wq1241 dX11_binds_56 ?_
      refine x_iload hx hb hl 4 rfl dX11_binds_59 ?_
      refine x_iload hx hb hl 2 rfl dX11_binds_61 ?_
      refine x_iast hx hb hE hW (by decide) (fun σ => sa_306 h0 g σ) (by omega) (by decide) rx3 dX11_binds_63 (fun H locs s14 es14 hW => ?_)
      have q15 : IMn s14 := by rw [es14]; exact IMn_o (by unfold suIMn; omega) q37_0
      have q16 : IMk s14 := by rw [es14]; exact IMk_o (by unfold suIMk; omega) q37_1
      have q17 : IMo s14 := by rw [es14]; exact IMo_306 q37_2 (by omega)
      have q18 : s14 268 8 = s0 268 8 := (show s14 268 8 = s_37 268 8 from by rw [es14, xU_k _ _ _ (by omega)]).trans q37_3
      have q19 : s14 268 58 = s0 268 58 := (show s14 268 58 = s_37 268 58 from by rw [es14, xU_k _ _ _ (by omega)]).trans q37_4
      have hF20 := hF_37.put es14 (by omega)
      have E63 := es14
      refine x_iinc (lv' := [(6, .int (xJ (i6_37 + 1))), (0, .ref (h0 + 268)), (3, .int (xJ n)), (4, .int (xJ x3)), (5, .int (xJ x8))]) hx hb hl 4 rfl dX11_binds_64 (by decide) rfl (fun ls hl => ?_)
      refine lv_goto (tgt := 37) hx hb dX11_binds_67 (by decide) ?_
      exact ih37 (i6_37 + 1) s14 H locs ls (by omega) hF20 q15 q16 q17 q18 q19 (by omega) (by first | exact fun q q1 q2 => (Classical.em (q < i6_37)).elim (fun h => by rw [E63, xU_j _ _ (by omega)]; exact v37_1 q q1 h) (fun h => by rw [show q = i6_37 from by omega, E63, xU_s]; unfold jn; rw [if_pos (by omega)]) | exact fun q q1 q2 => (Classical.em (q < i6_37)).elim (fun h => v37_1 q q1 h) (fun h => by rw [show q = i6_37 from by omega, v37_2 i6_37 (by omega)]; unfold jn; rw [if_neg (by omega)])) (by first | exact fun q q1 => by rw [E63, xU_j _ _ (by omega)]; exact v37_2 q (by omega) | exact fun q q1 => v37_2 q (by omega)) (by omega) hW (lv_sub hl [1, 2, 3, 4, 0] rfl)
  exact L37 ((8 - 0 : Int).toNat + 1) 0 s0 H locs ls (by decide) hF p0 p1 p2 k268_8 k268_58 (by omega) (fun q q1 q2 => absurd q2 (by omega)) (fun q _ => rfl) (Nat.lt_succ_self _) hW (lv_sub hl [3, 6, 2, 1, 0] rfl)
set_option maxHeartbeats 4000000 in
set_option maxRecDepth 100000 in
theorem c_X11_togetherM (l : Launch) (D : va_G) (g : xG) (T : Nat × Nat × Nat) (h0 : Nat) (s0 : xS) (hσ : xRR s0) (n : Int) (rn : xR n) (x : Int) (rx : xR x) (hb8 : xb8 (s0 276)) (p0 : IMn s0) (p1 : IMk s0) (p2 : IMo s0) : Met l yX11_together (xws yX11_together cX11_together 8 (some .int)) { frames := 2, cells := 0, slots := 0, locals := 47 } (xP [.ref (h0 + 268), .int (xJ n), .int (xJ x)] D g T h0 s0) (xQi D g h0 (fun r τ => xFr (fun k => k = 268 ∨ k = 306 ∨ k = 307) s0 τ ∧ (((IMn τ) ∧ (IMk τ) ∧ (IMo τ) ∧ (τ 268 58 = s0 268 58) ∧ True) ∧ (((n < 1 ∨ 8 < n ∨ x < 0 ∨ 2 < x ∨ s0 268 8 < 2 * n + 1 ∨ s0 268 8 < 2 * n + 1 + 2 * (s0 276 (2 * n) % 256)) ∧ τ 268 8 = s0 268 8 ∧ r = -1) ∨ (¬ (n < 1 ∨ 8 < n ∨ x < 0 ∨ 2 < x ∨ s0 268 8 < 2 * n + 1 ∨ s0 268 8 < 2 * n + 1 + 2 * (s0 276 (2 * n) % 256)) ∧ τ 268 8 = 0 ∧ ((¬ ((s0 276 (2 * n) % 256) ≤ 12 ∧ zpl (xm8 (s0 276)) n (s0 276 (2 * n) % 256)) ∧ r = -2) ∨ ((s0 276 (2 * n) % 256) ≤ 12 ∧ zpl (xm8 (s0 276)) n (s0 276 (2 * n) % 256) ∧ r = zta (xm8 (s0 276)) (zgr (xm8 (s0 276)) n true (s0 276 (2 * n) % 256).toNat) n x))))))) 0 0 (xA h0) := by
  refine x_met hσ (by decide) (Nat.le_of_ble_eq_true rfl) ?_
  intro p e s m args below meth c hx hb hr hml hown hT hlk hnm hE hW ls hl
  have hl : lv_has ls 8 [(0, .ref (h0 + 268)), (1, .int (xJ n)), (2, .int (xJ x))] := hl
  obtain ⟨Q, eQ⟩ : ∃ Q, Q = MQ below (xQi D g h0 (fun r τ => xFr (fun k => k = 268 ∨ k = 306 ∨ k = 307) s0 τ ∧ (((IMn τ) ∧ (IMk τ) ∧ (IMo τ) ∧ (τ 268 58 = s0 268 58) ∧ True) ∧ (((n < 1 ∨ 8 < n ∨ x < 0 ∨ 2 < x ∨ s0 268 8 < 2 * n + 1 ∨ s0 268 8 < 2 * n + 1 + 2 * (s0 276 (2 * n) % 256)) ∧ τ 268 8 = s0 268 8 ∧ r = -1) ∨ (¬ (n < 1 ∨ 8 < n ∨ x < 0 ∨ 2 < x ∨ s0 268 8 < 2 * n + 1 ∨ s0 268 8 < 2 * n + 1 + 2 * (s0 276 (2 * n) % 256)) ∧ τ 268 8 = 0 ∧ ((¬ ((s0 276 (2 * n) % 256) ≤ 12 ∧ zpl (xm8 (s0 276)) n (s0 276 (2 * n) % 256)) ∧ r = -2) ∨ ((s0 276 (2 * n) % 256) ≤ 12 ∧ zpl (xm8 (s0 276)) n (s0 276 (2 * n) % 256) ∧ r = zta (xm8 (s0 276)) (zgr (xm8 (s0 276)) n true (s0 276 (2 * n) % 256).toNat) n x))))))) args s 0 0 (xA h0) := ⟨_, rfl⟩
  rw [← eQ]
  generalize hHe : ([] : List Loc) = locs at hW ⊢
  obtain ⟨H, eH⟩ : ∃ H, H = s.heap := ⟨_, rfl⟩
  rw [← eH] at hW ⊢
  have hF : xFr (fun k => k = 268 ∨ k = 306 ∨ k = 307) s0 s0 := xFr.rf
  have k268_58 : s0 268 58 = s0 268 58 := rfl
  have k268_8 : s0 268 8 = s0 268 8 := rfl
  refine x_iload_n hx hb hl 1 rfl dX11_together_0 rfl ?_
  refine x_iconst hx hb dX11_together_1 ?_
  refine x_bipush hx hb dX11_together_2 (by decide) ?_
  refine x_goi (x_runS (As := [.int (xJ n), .int (xJ 1), .int (xJ 8)]) hx hb hml hown hT hE hW hl.1 cf_X11_in wq1383 wq1382 (c_X11_in l D g T h0 s0 hW.2.1 n rn 1 (by decide) 8 (by decide)) ⟨rfl, rfl, ⟨by decide, by decide⟩, ⟨by decide, by decide⟩⟩ rfl rfl (Nat.le_of_ble_eq_true rfl) dX11_together_4) hW (fun x1 s2 H locs rx1 hp3 hW => ?_)
  obtain ⟨es2, hp3⟩ := hp3
  subst es2
  have ghp3 := hp3
  refine x_if_eq (tgt := 31) hx hb rx1 dX11_together_7 (by decide) (fun c4 => ?_) (fun c4 => ?_)
  · skip
    refine x_iconst hx hb dX11_together_31 ?_
    rw [eQ]
    exact x_iret hx hb hr hlk hW (by decide) ⟨hF, ⟨p0, p1, p2, k268_58, trivial⟩, Or.inl ⟨by omega, by omega, by omega⟩⟩ dX11_together_32
  refine x_iload_n hx hb hl 2 rfl dX11_together_10 rfl ?_
  refine x_iconst hx hb dX11_together_11 ?_
  refine x_iconst hx hb dX11_together_12 ?_
  refine x_goi (x_runS (As := [.int (xJ x), .int (xJ 0), .int (xJ 2)]) hx hb hml hown hT hE hW hl.1 cf_X11_in wq1383 wq1382 (c_X11_in l D g T h0 s0 hW.2.1 x rx 0 (by decide) 2 (by decide)) ⟨rfl, rfl, ⟨by decide, by decide⟩, ⟨by decide, by decide⟩⟩ rfl rfl (Nat.le_of_ble_eq_true rfl) dX11_together_13) hW (fun x5 s6 H locs rx5 hp7 hW => ?_)
  obtain ⟨es6, hp7⟩ := hp7
  subst es6
  have ghp7 := hp7
  refine x_if_eq (tgt := 31) hx hb rx5 dX11_together_16 (by decide) (fun c8 => ?_) (fun c8 => ?_)
  · skip
    refine x_iconst hx hb dX11_together_31 ?_
    rw [eQ]
    exact x_iret hx hb hr hlk hW (by decide) ⟨hF, ⟨p0, p1, p2, k268_58, trivial⟩, Or.inl ⟨by omega, by omega, by omega⟩⟩ dX11_together_32
  refine x_iconst hx hb dX11_together_19 ?_
  refine x_iload_n hx hb hl 1 rfl dX11_together_20 rfl ?_
  refine x_imul hx hb dX11_together_21 ?_
  refine x_iconst hx hb dX11_together_22 ?_
  refine x_iadd hx hb dX11_together_23 ?_
  refine x_aload_n hx hb hl 0 rfl dX11_together_24 rfl ?_
  refine x_get (j := 8) (v := .int (xJ (s0 268 8))) hx hb hown hT hE hW cls_X11 (Or.inl (by decide)) (so_268 h0 g _) (by decide) rfl wq1193 dX11_together_25 ?_
  refine x_rd hW (fun x9 ex9 rx9 => ?_)
  have bx9 : 0 ≤ x9 ∧ x9 ≤ 260 := by rw [ex9]; exact IMn.t p0
  have fx9 : x9 = s0 268 8 := ex9.trans k268_8
  refine x_icmp_le (tgt := 33) hx hb (by omega) rx9 dX11_together_28 (by decide) (fun c10 => ?_) (fun c10 => ?_)
  · skip
    refine x_aload_n hx hb hl 0 rfl dX11_together_33 rfl ?_
    refine x_get (j := 7) (v := .ref (h0 + 276)) hx hb hown hT hE hW cls_X11 (Or.inl (by decide)) (so_268 h0 g _) (by decide) rfl wq1192 dX11_together_34 ?_
    refine x_iconst hx hb dX11_together_37 ?_
    refine x_iload_n hx hb hl 1 rfl dX11_together_38 rfl ?_
    refine x_imul hx hb dX11_together_39 ?_
    refine x_bald hx hb hE hW (Or.inl (by decide)) (sa_276 h0 g _) (by omega) (by decide) dX11_together_40 ?_
    refine x_rd hW (fun x11 ex11 rx11 => ?_)
    have V40 : x11 = s0 276 (2 * n) := by rw [ex11]
    refine x_sipush hx hb dX11_together_41 (by decide) ?_
    refine x_and255 hx hb rx11 dX11_together_44 ?_
    refine x_nm (fun x12 ex12 => ?_)
    refine lv_istore_n (lv' := [(3, .int (xJ x12)), (0, .ref (h0 + 268)), (1, .int (xJ n)), (2, .int (xJ x))]) hx hb dX11_together_45 rfl hl (by decide) rfl (fun ls hl => ?_)
    refine x_iconst hx hb dX11_together_46 ?_
    refine x_iload_n hx hb hl 2 rfl dX11_together_47 rfl ?_
    refine x_imul hx hb dX11_together_48 ?_
    refine x_iconst hx hb dX11_together_49 ?_
    refine x_iadd hx hb dX11_together_50 ?_
    refine x_iconst hx hb dX11_together_51 ?_
    refine x_iload_n hx hb hl 0 rfl dX11_together_52 rfl ?_
    refine x_imul hx hb dX11_together_53 ?_
    refine x_iadd hx hb dX11_together_54 ?_
    refine x_aload_n hx hb hl 1 rfl dX11_together_55 rfl ?_
    refine x_get (j := 8) (v := .int (xJ (s0 268 8))) hx hb hown hT hE hW cls_X11 (Or.inl (by decide)) (so_268 h0 g _) (by decide) rfl wq1193 dX11_together_56 ?_
    refine x_rd hW (fun x13 ex13 rx13 => ?_)
    have bx13 : 0 ≤ x13 ∧ x13 ≤ 260 := by rw [ex13]; exact IMn.t p0
    have fx13 : x13 = s0 268 8 := ex13.trans k268_8
    refine x_icmp_le (tgt := 64) hx hb (by omega) rx13 dX11_together_59 (by decide) (fun c14 => ?_) (fun c14 => ?_)
    · skip
      refine x_aload_n hx hb hl 1 rfl dX11_together_64 rfl ?_
      refine x_iconst hx hb dX11_together_65 ?_
      refine x_put (j := 8) hx hb hown hT hE hW cls_X11 (by decide) (fun σ => so_268 h0 g σ) (by decide) (st_X11_8 h0 s0 268 0) (ln_X11_8 h0 _ _) wq1193 rfl rfl rfl (by decide) dX11_together_66 (fun H locs s15 es15 hW => ?_)
      have q16 : IMn s15 := by rw [es15]; exact IMn_268 p0 (by omega)
      have q17 : IMk s15 := by rw [es15]; exact IMk_268 p1 (by omega)
      have q18 : IMo s15 := by rw [es15]; exact IMo_o (by unfold suIMo; omega) p2
      have q19 : s15 268 58 = s0 268 58 := (show s15 268 58 = s0 268 58 from by rw [es15, xU_j _ _ (by decide)]).trans k268_58
      have q20 : s15 268 8 = 0 := by rw [es15, xU_s]
      have hF21 := hF.put es15 (by omega)
      refine x_iload_n hx hb hl 0 rfl dX11_together_69 rfl ?_
      refine x_bipush hx hb dX11_together_70 (by decide) ?_
      refine x_icmp_le (tgt := 78) hx hb (by omega) (by decide) dX11_together_72 (by decide) (fun c22 => ?_) (fun c22 => ?_)
      · skip
        refine x_iconst hx hb dX11_together_78 ?_
        refine lv_istore (lv' := [(4, .int (xJ 0)), (3, .int (xJ x12)), (0, .ref (h0 + 268)), (1, .int (xJ n)), (2, .int (xJ x))]) hx hb dX11_together_79 hl (by decide) rfl (fun ls hl => ?_)
        have L81 : ∀ (fu : Nat) (i4_81 : Int) (s_81 : xS) (H : Heap) (locs : List Loc) (ls : Array Slot), (xR i4_81) → (xFr (fun k => k = 268 ∨ k = 306 ∨ k = 307) s0 s_81) → (IMn s_81) → (IMk s_81) → (IMo s_81) → (s_81 268 58 = s0 268 58) → (s_81 268 8 = 0) → (0 ≤ i4_81 ∧ i4_81 ≤ n) → (∀ i : Int, 0 ≤ i → i < i4_81 → s_81 306 i = i ∧ s_81 307 i = 0) → (8 - i4_81).toNat < fu → xW D g h0 s H locs s_81 → lv_has ls 8 [(0, .ref (h0 + 268)), (1, .int (xJ n)), (2, .int (xJ x)), (3, .int (xJ x12)), (4, .int (xJ i4_81))] → W p l e { frames := 2, cells := 0, slots := 0, locals := 47 } s m args below meth c H locs 0 0 Q (F0 m 81 ls []) := by
          intro fu
          induction fu with
          | zero => intro i4_81 s_81 H locs ls ri4_81 hF_81 q81_0 q81_1 q81_2 q81_3 q81_4 v81_0 v81_1 hm; exact absurd hm (Nat.not_lt_zero _)
          | succ fu ih81 =>
            intro i4_81 s_81 H locs ls ri4_81 hF_81 q81_0 q81_1 q81_2 q81_3 q81_4 v81_0 v81_1 hm hW hl
            refine x_iload hx hb hl 4 rfl dX11_together_81 ?_
            refine x_iload_n hx hb hl 1 rfl dX11_together_83 rfl ?_
            refine x_icmp_ge (tgt := 110) hx hb ri4_81 rn dX11_together_84 (by decide) (fun c23 => ?_) (fun c23 => ?_)
            · skip
              refine x_iconst hx hb dX11_together_110 ?_
              refine lv_istore (lv' := [(4, .int (xJ 0)), (0, .ref (h0 + 268)), (1, .int (xJ n)), (2, .int (xJ x)), (3, .int (xJ x12))]) hx hb dX11_together_111 hl (by decide) rfl (fun ls hl => ?_)
              have L113 : ∀ (fu : Nat) (i4_113 : Int) (H : Heap) (locs : List Loc) (ls : Array Slot), (xR i4_113) → (0 ≤ i4_113 ∧ i4_113 ≤ 24) → (∀ q : Int, 0 ≤ q → q < i4_113 → 0 ≤ s0 276 (2 * n + 1 + q) ∧ s0 276 (2 * n + 1 + q) ≤ n - 1) → (2 * x12 - i4_113).toNat < fu → xW D g h0 s H locs s_81 → lv_has ls 8 [(0, .ref (h0 + 268)), (1, .int (xJ n)), (2, .int (xJ x)), (3, .int (xJ x12)), (4, .int (xJ i4_113))] → W p l e { frames := 2, cells := 0, slots := 0, locals := 47 } s m args below meth c H locs 0 0 Q (F0 m 113 ls []) := by
                intro fu
                induction fu with
                | zero => intro i4_113 H locs ls ri4_113 v113_0 v113_1 hm; exact absurd hm (Nat.not_lt_zero _)
                | succ fu ih113 =>
                  intro i4_113 H locs ls ri4_113 v113_0 v113_1 hm hW hl
                  refine x_iload hx hb hl 4 rfl dX11_together_113 ?_
                  refine x_iconst hx hb dX11_together_115 ?_
                  refine x_iload_n hx hb hl 3 rfl dX11_together_116 rfl ?_
                  refine x_imul hx hb dX11_together_117 ?_
                  refine x_icmp_ge (tgt := 153) hx hb ri4_113 (by omega) dX11_together_118 (by decide) (fun c24 => ?_) (fun c24 => ?_)
                  · skip
                    refine x_iconst hx hb dX11_together_153 ?_
                    refine lv_istore (lv' := [(4, .int (xJ 0)), (0, .ref (h0 + 268)), (1, .int (xJ n)), (2, .int (xJ x)), (3, .int (xJ x12))]) hx hb dX11_together_154 hl (by decide) rfl (fun ls hl => ?_)
                    have L156 : ∀ (fu : Nat) (i4_156 : Int) (s_156 : xS) (H : Heap) (locs : List Loc) (ls : Array Slot), (xR i4_156) → (xFr (fun k => k = 268 ∨ k = 306 ∨ k = 307) s0 s_156) → (IMn s_156) → (IMk s_156) → (IMo s_156) → (s_156 268 58 = s0 268 58) → (s_156 268 8 = 0) → (0 ≤ i4_156 ∧ i4_156 ≤ x12) → (∀ i : Int, 0 ≤ i → i < n → s_156 306 i = zgr (xm8 (s0 276)) n true (i4_156).toNat i) → (∀ i : Int, 0 ≤ i → i < n → s_156 307 i = 0) → (12 - i4_156).toNat < fu → xW D g h0 s H locs s_156 → lv_has ls 8 [(0, .ref (h0 + 268)), (1, .int (xJ n)), (2, .int (xJ x)), (3, .int (xJ x12)), (4, .int (xJ i4_156))] → W p l e { frames := 2, cells := 0, slots := 0, locals := 47 } s m args below meth c H locs 0 0 Q (F0 m 156 ls []) := by
                      intro fu
                      induction fu with
                      | zero => intro i4_156 s_156 H locs ls ri4_156 hF_156 q156_0 q156_1 q156_2 q156_3 q156_4 v156_0 v156_1 v156_2 hm; exact absurd hm (Nat.not_lt_zero _)
                      | succ fu ih156 =>
                        intro i4_156 s_156 H locs ls ri4_156 hF_156 q156_0 q156_1 q156_2 q156_3 q156_4 v156_0 v156_1 v156_2 hm hW hl
                        refine x_iload hx hb hl 4 rfl dX11_together_156 ?_
                        refine x_iload_n hx hb hl 3 rfl dX11_together_158 rfl ?_
                        refine x_icmp_ge (tgt := 203) hx hb ri4_156 (by omega) dX11_together_159 (by decide) (fun c25 => ?_) (fun c25 => ?_)
                        · skip
                          refine x_iconst hx hb dX11_together_203 ?_
                          obtain ⟨G9, eG9⟩ : ∃ G, G = s_156 306 := ⟨_, rfl⟩
                          obtain ⟨m9, em9⟩ : ∃ m : Int, m = x12 := ⟨_, rfl⟩
                          have M9 : m9 = s0 276 (2 * n) % 256 := by omega
                          have P9 : ∀ q : Int, 0 ≤ q → q < 2 * ((m9).toNat : Int) → 0 ≤ (xm8 (s0 276)) (2 * n + 1 + q) ∧ (xm8 (s0 276)) (2 * n + 1 + q) < n := fun q q1 q2 => by
                            have h9 := v113_1 q q1 (by omega)
                            show 0 ≤ s0 276 (2 * n + 1 + q) % 256 ∧ s0 276 (2 * n + 1 + q) % 256 < n
                            omega
                          have Z9 : ∀ i : Int, 0 ≤ i → i < n → G9 i = zgr (xm8 (s0 276)) n true (m9).toNat i := fun i i1 i2 => by rw [eG9, v156_1 i i1 i2, show i4_156 = m9 from by omega]
                          have R9 : ∀ i : Int, 0 ≤ i → i < n → 0 ≤ G9 i ∧ G9 i < n := fun i i1 i2 => by rw [Z9 i i1 i2]; exact zgr_in (xm8 (s0 276)) true _ P9 i i1 i2
                          have I9 : ∀ i : Int, 0 ≤ i → i < n → G9 (G9 i) = G9 i := fun i i1 i2 => by
                            have r9 := R9 i i1 i2
                            rw [Z9 _ r9.1 r9.2, Z9 i i1 i2]
                            exact zgr_idem (xm8 (s0 276)) _ P9 i i1 i2
                          refine lv_istore (lv' := [(4, .int (xJ 0)), (0, .ref (h0 + 268)), (1, .int (xJ n)), (2, .int (xJ x)), (3, .int (xJ x12))]) hx hb dX11_together_204 hl (by decide) rfl (fun ls hl => ?_)
                          have L206 : ∀ (fu : Nat) (i4_206 : Int) (s_206 : xS) (H : Heap) (locs : List Loc) (ls : Array Slot), (xR i4_206) → (xFr (fun k => k = 268 ∨ k = 306 ∨ k = 307) s0 s_206) → (IMn s_206) → (IMk s_206) → (IMo s_206) → (s_206 268 58 = s0 268 58) → (s_206 268 8 = 0) → (0 ≤ i4_206 ∧ i4_206 ≤ n) → (s_206 306 = s_156 306) → (∀ g9 : Int, 0 ≤ g9 → g9 < n → s_206 307 g9 = zlm (xm8 (s0 276)) G9 g9 (i4_206).toNat) → (∀ g9 : Int, 0 ≤ g9 → g9 < n → 0 ≤ s_206 307 g9 ∧ s_206 307 g9 ≤ 65535) → (8 - i4_206).toNat < fu → xW D g h0 s H locs s_206 → lv_has ls 8 [(0, .ref (h0 + 268)), (1, .int (xJ n)), (2, .int (xJ x)), (4, .int (xJ i4_206))] → W p l e { frames := 2, cells := 0, slots := 0, locals := 47 } s m args below meth c H locs 0 0 Q (F0 m 206 ls []) := by
                            intro fu
                            induction fu with
                            | zero => intro i4_206 s_206 H locs ls ri4_206 hF_206 q206_0 q206_1 q206_2 q206_3 q206_4 v206_0 v206_1 v206_2 v206_3 hm; exact absurd hm (Nat.not_lt_zero _)
                            | succ fu ih206 =>
                              intro i4_206 s_206 H locs ls ri4_206 hF_206 q206_0 q206_1 q206_2 q206_3 q206_4 v206_0 v206_1 v206_2 v206_3 hm hW hl
                              refine x_iload hx hb hl 3 rfl dX11_together_206 ?_
                              refine x_iload_n hx hb hl 1 rfl dX11_together_208 rfl ?_
                              refine x_icmp_ge (tgt := 278) hx hb ri4_206 rn dX11_together_209 (by decide) (fun c26 => ?_) (fun c26 => ?_)
                              · skip
                                refine x_iconst hx hb dX11_together_278 ?_
                                refine lv_istore (lv' := [(4, .int (xJ 0)), (0, .ref (h0 + 268)), (1, .int (xJ n)), (2, .int (xJ x))]) hx hb dX11_together_279 hl (by decide) rfl (fun ls hl => ?_)
                                refine x_iconst hx hb dX11_together_281 ?_
                                refine lv_istore (lv' := [(5, .int (xJ 0)), (4, .int (xJ 0)), (0, .ref (h0 + 268)), (1, .int (xJ n)), (2, .int (xJ x))]) hx hb dX11_together_282 hl (by decide) rfl (fun ls hl => ?_)
                                refine x_iconst hx hb dX11_together_284 ?_
                                refine lv_istore (lv' := [(6, .int (xJ 0)), (5, .int (xJ 0)), (4, .int (xJ 0)), (0, .ref (h0 + 268)), (1, .int (xJ n)), (2, .int (xJ x))]) hx hb dX11_together_285 hl (by decide) rfl (fun ls hl => ?_)
                                refine x_iconst hx hb dX11_together_287 ?_
                                refine lv_istore (lv' := [(7, .int (xJ 0)), (6, .int (xJ 0)), (5, .int (xJ 0)), (4, .int (xJ 0)), (0, .ref (h0 + 268)), (1, .int (xJ n)), (2, .int (xJ x))]) hx hb dX11_together_288 hl (by decide) rfl (fun ls hl => ?_)
                                have L290 : ∀ (fu : Nat) (i4_290 : Int) (i5_290 : Int) (i6_290 : Int) (i7_290 : Int) (H : Heap) (locs : List Loc) (ls : Array Slot), (xR i4_290) → (xR i5_290) → (xR i6_290) → (xR i7_290) → (0 ≤ i7_290 ∧ i7_290 ≤ n) → (0 ≤ i5_290 ∧ i5_290 ≤ i7_290) → (0 ≤ i4_290 ∧ i4_290 ≤ 65535 * i7_290) → (0 ≤ i6_290 ∧ i6_290 ≤ 65535) → (i4_290 = zsm (zLM (xm8 (s0 276)) G9 n) (i7_290).toNat) → (i5_290 = zsm (zON G9 n) (i7_290).toNat) → (i6_290 = zmx (zLM (xm8 (s0 276)) G9 n) (i7_290).toNat) → (8 - i7_290).toNat < fu → xW D g h0 s H locs s_206 → lv_has ls 8 [(0, .ref (h0 + 268)), (1, .int (xJ n)), (2, .int (xJ x)), (4, .int (xJ i4_290)), (5, .int (xJ i5_290)), (6, .int (xJ i6_290)), (7, .int (xJ i7_290))] → W p l e { frames := 2, cells := 0, slots := 0, locals := 47 } s m args below meth c H locs 0 0 Q (F0 m 290 ls []) := by
                                  intro fu
                                  induction fu with
                                  | zero => intro i4_290 i5_290 i6_290 i7_290 H locs ls ri4_290 ri5_290 ri6_290 ri7_290 v290_0 v290_1 v290_2 v290_3 v290_4 v290_5 v290_6 hm; exact absurd hm (Nat.not_lt_zero _)
                                  | succ fu ih290 =>
                                    intro i4_290 i5_290 i6_290 i7_290 H locs ls ri4_290 ri5_290 ri6_290 ri7_290 v290_0 v290_1 v290_2 v290_3 v290_4 v290_5 v290_6 hm hW hl
                                    refine x_iload hx hb hl 6 rfl dX11_together_290 ?_
                                    refine x_iload_n hx hb hl 1 rfl dX11_together_292 rfl ?_
                                    refine x_icmp_ge (tgt := 346) hx hb ri7_290 rn dX11_together_293 (by decide) (fun c27 => ?_) (fun c27 => ?_)
                                    · skip
                                      refine x_iload_n hx hb hl 2 rfl dX11_together_346 rfl ?_
                                      refine x_if_ne (tgt := 355) hx hb rx dX11_together_347 (by decide) (fun c28 => ?_) (fun c28 => ?_)
                                      · skip
                                        refine x_iload_n hx hb hl 2 rfl dX11_together_355 rfl ?_
                                        refine x_iconst hx hb dX11_together_356 ?_
                                        refine x_icmp_ne (tgt := 365) hx hb rx (by decide) dX11_together_357 (by decide) (fun c29 => ?_) (fun c29 => ?_)
                                        · skip
                                          refine x_iload hx hb hl 5 rfl dX11_together_365 ?_
                                          rw [eQ]
                                          exact x_iret hx hb hr hlk hW ri6_290 ⟨hF_206, ⟨q206_0, q206_1, q206_2, q206_3, trivial⟩, by
    exact Or.inr ⟨by omega, by omega, Or.inr ⟨by omega, fun i i1 i2 => (P9 i i1 (by omega)).2, by rw [← M9]; exact (zta_i (G := G9) (i := i7_290) (c := i4_290) (d := i5_290) (e := i6_290) (by omega) v290_4 v290_5 v290_6 (by omega)).trans (zta_g Z9)⟩⟩⟩ dX11_together_367
                                        refine x_iload hx hb hl 4 rfl dX11_together_360 ?_
                                        refine lv_goto (tgt := 367) hx hb dX11_together_362 (by decide) ?_
                                        rw [eQ]
                                        exact x_iret hx hb hr hlk hW ri5_290 ⟨hF_206, ⟨q206_0, q206_1, q206_2, q206_3, trivial⟩, by
    exact Or.inr ⟨by omega, by omega, Or.inr ⟨by omega, fun i i1 i2 => (P9 i i1 (by omega)).2, by rw [← M9]; exact (zta_i (G := G9) (i := i7_290) (c := i4_290) (d := i5_290) (e := i6_290) (by omega) v290_4 v290_5 v290_6 (by omega)).trans (zta_g Z9)⟩⟩⟩ dX11_together_367
                                      refine x_iload hx hb hl 3 rfl dX11_together_350 ?_
                                      refine lv_goto (tgt := 367) hx hb dX11_together_352 (by decide) ?_
                                      rw [eQ]
                                      exact x_iret hx hb hr hlk hW ri4_290 ⟨hF_206, ⟨q206_0, q206_1, q206_2, q206_3, trivial⟩, by
    exact Or.inr ⟨by omega, by omega, Or.inr ⟨by omega, fun i i1 i2 => (P9 i i1 (by omega)).2, by rw [← M9]; exact (zta_i (G := G9) (i := i7_290) (c := i4_290) (d := i5_290) (e := i6_290) (by omega) v290_4 v290_5 v290_6 (by omega)).trans (zta_g Z9)⟩⟩⟩ dX11_together_367
                                    refine x_aload_n hx hb hl 0 rfl dX11_together_296 rfl ?_
                                    refine x_get (j := 56) (v := .ref (h0 + 306)) hx hb hown hT hE hW cls_X11 (Or.inl (by decide)) (so_268 h0 g _) (by decide) rfl wq1241 dX11_together_297 ?_
                                    refine x_iload hx hb hl 6 rfl dX11_together_300 ?_
                                    refine x_iald hx hb hE hW (Or.inl (by decide)) (sa_306 h0 g _) (by omega) (by decide) dX11_together_302 ?_
                                    refine x_rd hW (fun x30 ex30 rx30 => ?_)
                                    have bx30 : 0 ≤ x30 ∧ x30 ≤ 7 := by rw [ex30]; exact IMo.b q206_2 _ (by omega) (by omega)
                                    have V302 : x30 = G9 i7_290 := by rw [ex30, v206_1, eG9]
                                    have O302 := zON_own (G := G9) (n := n) (k := i7_290) ⟨by omega, by omega⟩ I9
                                    refine x_iload hx hb hl 6 rfl dX11_together_303 ?_
                                    refine x_icmp_ne (tgt := 314) hx hb rx30 ri7_290 dX11_together_305 (by decide) (fun c31 => ?_) (fun c31 => ?_)
                                    · skip
                                      refine x_iload hx hb hl 3 rfl dX11_together_314 ?_
                                      refine x_aload_n hx hb hl 0 rfl dX11_together_316 rfl ?_
                                      refine x_get (j := 57) (v := .ref (h0 + 307)) hx hb hown hT hE hW cls_X11 (Or.inl (by decide)) (so_268 h0 g _) (by decide) rfl wq1242 dX11_together_317 ?_
                                      refine x_iload hx hb hl 6 rfl dX11_together_320 ?_
                                      refine x_iald hx hb hE hW (Or.inl (by decide)) (sa_307 h0 g _) (by omega) (by decide) dX11_together_322 ?_
                                      refine x_rd hW (fun x32 ex32 rx32 => ?_)
                                      have V322 : x32 = zLM (xm8 (s0 276)) G9 n i7_290 := by rw [ex32, v206_2 _ (by omega) (by omega), show i4_206 = n from by omega]; rfl
                                      have W322 := v206_3 i7_290 (by omega) (by omega)
                                      rw [← ex32] at W322
                                      refine x_iadd hx hb dX11_together_323 ?_
                                      refine x_nm (fun x33 ex33 => ?_)
                                      refine lv_istore (lv' := [(4, .int (xJ x33)), (0, .ref (h0 + 268)), (1, .int (xJ n)), (2, .int (xJ x)), (5, .int (xJ i5_290)), (6, .int (xJ i6_290)), (7, .int (xJ i7_290))]) hx hb dX11_together_324 hl (by decide) rfl (fun ls hl => ?_)
                                      refine x_iload hx hb hl 5 rfl dX11_together_326 ?_
                                      refine x_aload_n hx hb hl 1 rfl dX11_together_328 rfl ?_
                                      refine x_get (j := 57) (v := .ref (h0 + 307)) hx hb hown hT hE hW cls_X11 (Or.inl (by decide)) (so_268 h0 g _) (by decide) rfl wq1242 dX11_together_329 ?_
                                      refine x_iload hx hb hl 6 rfl dX11_together_332 ?_
                                      refine x_iald hx hb hE hW (Or.inl (by decide)) (sa_307 h0 g _) (by omega) (by decide) dX11_together_334 ?_
                                      refine x_rd hW (fun x34 ex34 rx34 => ?_)
                                      have V334 : x34 = zLM (xm8 (s0 276)) G9 n i7_290 := by rw [ex34, v206_2 _ (by omega) (by omega), show i4_206 = n from by omega]; rfl
                                      have W334 := v206_3 i7_290 (by omega) (by omega)
                                      rw [← ex34] at W334
                                      refine x_goi (x_runS (As := [.int (xJ i6_290), .int (xJ x34)]) hx hb hml hown hT hE hW hl.1 cf_X11_max wq1677 wq1676 (c_X11_max l D g T h0 s_206 hW.2.1 i6_290 ri6_290 x34 rx34) ⟨rfl, rfl, ⟨by decide, by decide⟩, ⟨by decide, by decide⟩⟩ rfl rfl (Nat.le_of_ble_eq_true rfl) dX11_together_335) hW (fun x35 s36 H locs rx35 hp37 hW => ?_)
                                      obtain ⟨es36, hp37⟩ := hp37
                                      subst es36
                                      have ghp37 := hp37
                                      refine lv_istore (lv' := [(6, .int (xJ x35)), (4, .int (xJ x33)), (0, .ref (h0 + 268)), (1, .int (xJ n)), (2, .int (xJ x)), (5, .int (xJ i5_290)), (7, .int (xJ i7_290))]) hx hb dX11_together_338 hl (by decide) rfl (fun ls hl => ?_)
                                      refine x_iinc (lv' := [(7, .int (xJ (i7_290 + 1))), (6, .int (xJ x35)), (4, .int (xJ x33)), (0, .ref (h0 + 268)), (1, .int (xJ n)), (2, .int (xJ x)), (5, .int (xJ i5_290))]) hx hb hl 6 rfl dX11_together_340 (by decide) rfl (fun ls hl => ?_)
                                      refine lv_goto (tgt := 290) hx hb dX11_together_343 (by decide) ?_
                                      exact ih290 x33 i5_290 x35 (i7_290 + 1) H locs ls (by omega) ri5_290 rx35 (by omega) (by omega) (by omega) (by omega) (by omega) (by rw [zsm_s (by omega)]; omega) (by rw [zsm_s (by omega), O302]; first | (rw [if_pos (by omega)]; omega) | (rw [if_neg (by omega)]; omega)) (by rw [zmx_s (by omega)]; split <;> omega) (by omega) hW (lv_sub hl [3, 4, 5, 2, 6, 1, 0] rfl)
                                    refine x_iload hx hb hl 4 rfl dX11_together_308 ?_
                                    refine x_iconst hx hb dX11_together_310 ?_
                                    refine x_iadd hx hb dX11_together_311 ?_
                                    refine x_nm (fun x38 ex38 => ?_)
                                    refine lv_istore (lv' := [(5, .int (xJ x38)), (0, .ref (h0 + 268)), (1, .int (xJ n)), (2, .int (xJ x)), (4, .int (xJ i4_290)), (6, .int (xJ i6_290)), (7, .int (xJ i7_290))]) hx hb dX11_together_312 hl (by decide) rfl (fun ls hl => ?_)
                                    refine x_iload hx hb hl 4 rfl dX11_together_314 ?_
                                    refine x_aload_n hx hb hl 1 rfl dX11_together_316 rfl ?_
                                    refine x_get (j := 57) (v := .ref (h0 + 307)) hx hb hown hT hE hW cls_X11 (Or.inl (by decide)) (so_268 h0 g _) (by decide) rfl wq1242 dX11_together_317 ?_
                                    refine x_iload hx hb hl 6 rfl dX11_together_320 ?_
                                    refine x_iald hx hb hE hW (Or.inl (by decide)) (sa_307 h0 g _) (by omega) (by decide) dX11_together_322 ?_
                                    refine x_rd hW (fun x39 ex39 rx39 => ?_)
                                    have V322 : x39 = zLM (xm8 (s0 276)) G9 n i7_290 := by rw [ex39, v206_2 _ (by omega) (by omega), show i4_206 = n from by omega]; rfl
                                    have W322 := v206_3 i7_290 (by omega) (by omega)
                                    rw [← ex39] at W322
                                    refine x_iadd hx hb dX11_together_323 ?_
                                    refine x_nm (fun x40 ex40 => ?_)
                                    refine lv_istore (lv' := [(4, .int (xJ x40)), (5, .int (xJ x38)), (0, .ref (h0 + 268)), (1, .int (xJ n)), (2, .int (xJ x)), (6, .int (xJ i6_290)), (7, .int (xJ i7_290))]) hx hb dX11_together_324 hl (by decide) rfl (fun ls hl => ?_)
                                    refine x_iload hx hb hl 5 rfl dX11_together_326 ?_
                                    refine x_aload_n hx hb hl 2 rfl dX11_together_328 rfl ?_
                                    refine x_get (j := 57) (v := .ref (h0 + 307)) hx hb hown hT hE hW cls_X11 (Or.inl (by decide)) (so_268 h0 g _) (by decide) rfl wq1242 dX11_together_329 ?_
                                    refine x_iload hx hb hl 6 rfl dX11_together_332 ?_
                                    refine x_iald hx hb hE hW (Or.inl (by decide)) (sa_307 h0 g _) (by omega) (by decide) dX11_together_334 ?_
                                    refine x_rd hW (fun x41 ex41 rx41 => ?_)
                                    have V334 : x41 = zLM (xm8 (s0 276)) G9 n i7_290 := by rw [ex41, v206_2 _ (by omega) (by omega), show i4_206 = n from by omega]; rfl
                                    have W334 := v206_3 i7_290 (by omega) (by omega)
                                    rw [← ex41] at W334
                                    refine x_goi (x_runS (As := [.int (xJ i6_290), .int (xJ x41)]) hx hb hml hown hT hE hW hl.1 cf_X11_max wq1677 wq1676 (c_X11_max l D g T h0 s_206 hW.2.1 i6_290 ri6_290 x41 rx41) ⟨rfl, rfl, ⟨by decide, by decide⟩, ⟨by decide, by decide⟩⟩ rfl rfl (Nat.le_of_ble_eq_true rfl) dX11_together_335) hW (fun x42 s43 H locs rx42 hp44 hW => ?_)
                                    obtain ⟨es43, hp44⟩ := hp44
                                    subst es43
                                    have ghp44 := hp44
                                    refine lv_istore (lv' := [(6, .int (xJ x42)), (4, .int (xJ x40)), (5, .int (xJ x38)), (0, .ref (h0 + 268)), (1, .int (xJ n)), (2, .int (xJ x)), (7, .int (xJ i7_290))]) hx hb dX11_together_338 hl (by decide) rfl (fun ls hl => ?_)
                                    refine x_iinc (lv' := [(7, .int (xJ (i7_290 + 1))), (6, .int (xJ x42)), (4, .int (xJ x40)), (5, .int (xJ x38)), (0, .ref (h0 + 268)), (1, .int (xJ n)), (2, .int (xJ x))]) hx hb hl 6 rfl dX11_together_340 (by decide) rfl (fun ls hl => ?_)
                                    refine lv_goto (tgt := 290) hx hb dX11_together_343 (by decide) ?_
                                    exact ih290 x40 x38 x42 (i7_290 + 1) H locs ls (by omega) (by omega) rx42 (by omega) (by omega) (by omega) (by omega) (by omega) (by rw [zsm_s (by omega)]; omega) (by rw [zsm_s (by omega), O302]; first | (rw [if_pos (by omega)]; omega) | (rw [if_neg (by omega)]; omega)) (by rw [zmx_s (by omega)]; split <;> omega) (by omega) hW (lv_sub hl [4, 5, 6, 2, 3, 1, 0] rfl)
                                exact L290 ((8 - 0 : Int).toNat + 1) 0 0 0 0 H locs ls (by decide) (by decide) (by decide) (by decide) (by omega) (by omega) (by omega) (by omega) (rfl) (rfl) (rfl) (Nat.lt_succ_self _) hW (lv_sub hl [4, 5, 6, 3, 2, 1, 0] rfl)
                              refine x_aload_n hx hb hl 0 rfl dX11_together_212 rfl ?_
                              refine x_get (j := 57) (v := .ref (h0 + 307)) hx hb hown hT hE hW cls_X11 (Or.inl (by decide)) (so_268 h0 g _) (by decide) rfl wq1242 dX11_together_213 ?_
                              refine x_aload_n hx hb hl 0 rfl dX11_together_216 rfl ?_
                              refine x_get (j := 56) (v := .ref (h0 + 306)) hx hb hown hT hE hW cls_X11 (Or.inl (by decide)) (so_268 h0 g _) (by decide) rfl wq1241 dX11_together_217 ?_
                              refine x_iload hx hb hl 3 rfl dX11_together_220 ?_
                              refine x_iald hx hb hE hW (Or.inl (by decide)) (sa_306 h0 g _) (by omega) (by decide) dX11_together_222 ?_
                              refine x_rd hW (fun x45 ex45 rx45 => ?_)
                              have bx45 : 0 ≤ x45 ∧ x45 ≤ 7 := by rw [ex45]; exact IMo.b q206_2 _ (by omega) (by omega)
                              obtain ⟨p222, ep222⟩ : ∃ p : Int, p = x45 := ⟨_, rfl⟩
                              have P222 : p222 = G9 i4_206 := by rw [ep222, ex45, v206_1, eG9]
                              have r222 := R9 i4_206 (by omega) (by omega)
                              refine x_aload_n hx hb hl 0 rfl dX11_together_223 rfl ?_
                              refine x_get (j := 57) (v := .ref (h0 + 307)) hx hb hown hT hE hW cls_X11 (Or.inl (by decide)) (so_268 h0 g _) (by decide) rfl wq1242 dX11_together_224 ?_
                              refine x_aload_n hx hb hl 0 rfl dX11_together_227 rfl ?_
                              refine x_get (j := 56) (v := .ref (h0 + 306)) hx hb hown hT hE hW cls_X11 (Or.inl (by decide)) (so_268 h0 g _) (by decide) rfl wq1241 dX11_together_228 ?_
                              refine x_iload hx hb hl 3 rfl dX11_together_231 ?_
                              refine x_iald hx hb hE hW (Or.inl (by decide)) (sa_306 h0 g _) (by omega) (by decide) dX11_together_233 ?_
                              refine x_rd hW (fun x46 ex46 rx46 => ?_)
                              have bx46 : 0 ≤ x46 ∧ x46 ≤ 7 := by rw [ex46]; exact IMo.b q206_2 _ (by omega) (by omega)
                              have V233 : x46 = p222 := by rw [P222, ex46, v206_1, eG9]
                              refine x_iald hx hb hE hW (Or.inl (by decide)) (sa_307 h0 g _) (by omega) (by decide) dX11_together_234 ?_
                              refine x_rd hW (fun x47 ex47 rx47 => ?_)
                              have V234 : x47 = zlm (xm8 (s0 276)) G9 p222 (i4_206).toNat := by rw [ex47, V233]; exact v206_2 _ (by omega) (by omega)
                              have W234 := v206_3 p222 (by omega) (by omega)
                              rw [← V233, ← ex47] at W234
                              refine x_aload_n hx hb hl 0 rfl dX11_together_235 rfl ?_
                              refine x_get (j := 7) (v := .ref (h0 + 276)) hx hb hown hT hE hW cls_X11 (Or.inl (by decide)) (so_268 h0 g _) (by decide) rfl wq1192 dX11_together_236 ?_
                              refine x_iconst hx hb dX11_together_239 ?_
                              refine x_iload hx hb hl 3 rfl dX11_together_240 ?_
                              refine x_imul hx hb dX11_together_242 ?_
                              refine x_bald hx hb hE hW (Or.inl (by decide)) (sa_276 h0 g _) (by omega) (by decide) dX11_together_243 ?_
                              refine x_rd hW (fun x48 ex48 rx48 => ?_)
                              have V243 : x48 = s0 276 (2 * i4_206) := by rw [ex48, hF_206 276 (by omega)]
                              refine x_sipush hx hb dX11_together_244 (by decide) ?_
                              refine x_and255 hx hb rx48 dX11_together_247 ?_
                              refine x_nm (fun x49 ex49 => ?_)
                              refine x_sipush hx hb dX11_together_248 (by decide) ?_
                              refine x_imul hx hb dX11_together_251 ?_
                              refine x_aload_n hx hb hl 0 rfl dX11_together_252 rfl ?_
                              refine x_get (j := 7) (v := .ref (h0 + 276)) hx hb hown hT hE hW cls_X11 (Or.inl (by decide)) (so_268 h0 g _) (by decide) rfl wq1192 dX11_together_253 ?_
                              refine x_iconst hx hb dX11_together_256 ?_
                              refine x_iload hx hb hl 3 rfl dX11_together_257 ?_
                              refine x_imul hx hb dX11_together_259 ?_
                              refine x_iconst hx hb dX11_together_260 ?_
                              refine x_iadd hx hb dX11_together_261 ?_
                              refine x_bald hx hb hE hW (Or.inl (by decide)) (sa_276 h0 g _) (by omega) (by decide) dX11_together_262 ?_
                              refine x_rd hW (fun x50 ex50 rx50 => ?_)
                              have V262 : x50 = s0 276 (2 * i4_206 + 1) := by rw [ex50, hF_206 276 (by omega)]
                              have N262 : zln (xm8 (s0 276)) i4_206 = 256 * (s0 276 (2 * i4_206) % 256) + s0 276 (2 * i4_206 + 1) % 256 := rfl
                              refine x_sipush hx hb dX11_together_263 (by decide) ?_
                              refine x_and255 hx hb rx50 dX11_together_266 ?_
                              refine x_nm (fun x51 ex51 => ?_)
                              refine x_iadd hx hb dX11_together_267 ?_
                              refine x_goi (x_runS (As := [.int (xJ x47), .int (xJ ((x49 * 256) + x51))]) hx hb hml hown hT hE hW hl.1 cf_X11_max wq1677 wq1676 (c_X11_max l D g T h0 s_206 hW.2.1 x47 rx47 ((x49 * 256) + x51) (by omega)) ⟨rfl, rfl, ⟨by decide, by decide⟩, ⟨by decide, by decide⟩⟩ rfl rfl (Nat.le_of_ble_eq_true rfl) dX11_together_268) hW (fun x52 s53 H locs rx52 hp54 hW => ?_)
                              obtain ⟨es53, hp54⟩ := hp54
                              subst es53
                              have ghp54 := hp54
                              refine x_iast hx hb hE hW (by decide) (fun σ => sa_307 h0 g σ) (by omega) (by decide) rx52 dX11_together_271 (fun H locs s55 es55 hW => ?_)
                              have q56 : IMn s55 := by rw [es55]; exact IMn_o (by unfold suIMn; omega) q206_0
                              have q57 : IMk s55 := by rw [es55]; exact IMk_o (by unfold suIMk; omega) q206_1
                              have q58 : IMo s55 := by rw [es55]; exact IMo_o (by unfold suIMo; omega) q206_2
                              have q59 : s55 268 58 = s0 268 58 := (show s55 268 58 = s_206 268 58 from by rw [es55, xU_k _ _ _ (by omega)]).trans q206_3
                              have q60 : s55 268 8 = 0 := (show s55 268 8 = s_206 268 8 from by rw [es55, xU_k _ _ _ (by omega)]).trans q206_4
                              have hF61 := hF_206.put es55 (by omega)
                              have E271 := es55
                              refine x_iinc (lv' := [(4, .int (xJ (i4_206 + 1))), (0, .ref (h0 + 268)), (1, .int (xJ n)), (2, .int (xJ x))]) hx hb hl 3 rfl dX11_together_272 (by decide) rfl (fun ls hl => ?_)
                              refine lv_goto (tgt := 206) hx hb dX11_together_275 (by decide) ?_
                              exact ih206 (i4_206 + 1) s55 H locs ls (by omega) hF61 q56 q57 q58 q59 q60 (by omega) (by rw [E271, xU_k _ _ _ (by omega)]; exact v206_1) (fun g9 a9 b9 => (Classical.em (g9 = p222)).elim (fun e => by rw [e, zlm_y (by omega) P222.symm, E271, ← ep222, xU_s]; split <;> omega) (fun e => by rw [zlm_n (by omega) (by omega), E271, xU_j _ _ (by omega)]; exact v206_2 g9 a9 b9)) (fun g9 a9 b9 => (Classical.em (g9 = p222)).elim (fun e => by rw [e, E271, ← ep222, xU_s]; omega) (fun e => by rw [E271, xU_j _ _ (by omega)]; exact v206_3 g9 a9 b9)) (by omega) hW (lv_sub hl [1, 2, 3, 0] rfl)
                          exact L206 ((8 - 0 : Int).toNat + 1) 0 s_156 H locs ls (by decide) hF_156 q156_0 q156_1 q156_2 q156_3 q156_4 (by omega) (rfl) (v156_2) (fun g9 a9 b9 => by rw [v156_2 g9 a9 b9]; decide) (Nat.lt_succ_self _) hW (lv_sub hl [1, 2, 3, 0] rfl)
                        refine x_aload_n hx hb hl 0 rfl dX11_together_162 rfl ?_
                        refine x_aload_n hx hb hl 0 rfl dX11_together_163 rfl ?_
                        refine x_get (j := 7) (v := .ref (h0 + 276)) hx hb hown hT hE hW cls_X11 (Or.inl (by decide)) (so_268 h0 g _) (by decide) rfl wq1192 dX11_together_164 ?_
                        refine x_iconst hx hb dX11_together_167 ?_
                        refine x_iload_n hx hb hl 1 rfl dX11_together_168 rfl ?_
                        refine x_imul hx hb dX11_together_169 ?_
                        refine x_iconst hx hb dX11_together_170 ?_
                        refine x_iadd hx hb dX11_together_171 ?_
                        refine x_iconst hx hb dX11_together_172 ?_
                        refine x_iload hx hb hl 4 rfl dX11_together_173 ?_
                        refine x_imul hx hb dX11_together_175 ?_
                        refine x_iadd hx hb dX11_together_176 ?_
                        refine x_bald hx hb hE hW (Or.inl (by decide)) (sa_276 h0 g _) (by omega) (by decide) dX11_together_177 ?_
                        refine x_rd hW (fun x62 ex62 rx62 => ?_)
                        have ux62 : (2 * n + 1 + ((((2 * n) + 1) + (2 * i4_156)) - (2 * n + 1))) = (((2 * n) + 1) + (2 * i4_156)) := by omega
                        have wx62 := v113_1 ((((2 * n) + 1) + (2 * i4_156)) - (2 * n + 1)) (by omega) (by omega)
                        rw [ux62, ← hF_156 276 (by omega), ← ex62] at wx62
                        have tx62 : 0 ≤ x62 ∧ x62 ≤ 7 := by omega
                        obtain ⟨p177, ep177⟩ : ∃ p : Int, p = x62 := ⟨_, rfl⟩
                        have F177 : xm8 (s0 276) (2 * n + 1 + 2 * i4_156) = p177 := by
                          show s0 276 (2 * n + 1 + 2 * i4_156) % 256 = p177
                          have q9 := congrFun (hF_156 276 (by omega)) (2 * n + 1 + 2 * i4_156)
                          omega
                        refine x_aload_n hx hb hl 0 rfl dX11_together_178 rfl ?_
                        refine x_get (j := 7) (v := .ref (h0 + 276)) hx hb hown hT hE hW cls_X11 (Or.inl (by decide)) (so_268 h0 g _) (by decide) rfl wq1192 dX11_together_179 ?_
                        refine x_iconst hx hb dX11_together_182 ?_
                        refine x_iload_n hx hb hl 1 rfl dX11_together_183 rfl ?_
                        refine x_imul hx hb dX11_together_184 ?_
                        refine x_iconst hx hb dX11_together_185 ?_
                        refine x_iadd hx hb dX11_together_186 ?_
                        refine x_iconst hx hb dX11_together_187 ?_
                        refine x_iload hx hb hl 4 rfl dX11_together_188 ?_
                        refine x_imul hx hb dX11_together_190 ?_
                        refine x_iadd hx hb dX11_together_191 ?_
                        refine x_bald hx hb hE hW (Or.inl (by decide)) (sa_276 h0 g _) (by omega) (by decide) dX11_together_192 ?_
                        refine x_rd hW (fun x63 ex63 rx63 => ?_)
                        have ux63 : (2 * n + 1 + ((((2 * n) + 2) + (2 * i4_156)) - (2 * n + 1))) = (((2 * n) + 2) + (2 * i4_156)) := by omega
                        have wx63 := v113_1 ((((2 * n) + 2) + (2 * i4_156)) - (2 * n + 1)) (by omega) (by omega)
                        rw [ux63, ← hF_156 276 (by omega), ← ex63] at wx63
                        have tx63 : 0 ≤ x63 ∧ x63 ≤ 7 := by omega
                        obtain ⟨p192, ep192⟩ : ∃ p : Int, p = x63 := ⟨_, rfl⟩
                        have F192 : xm8 (s0 276) (2 * n + 2 + 2 * i4_156) = p192 := by
                          show s0 276 (2 * n + 2 + 2 * i4_156) % 256 = p192
                          have q9 := congrFun (hF_156 276 (by omega)) (2 * n + 2 + 2 * i4_156)
                          omega
                        refine x_iload_n hx hb hl 1 rfl dX11_together_193 rfl ?_
                        refine x_gov (x_runV (As := [.int (xJ x62), .int (xJ x63), .int (xJ n)]) hx hb hml hown hT hE hW hl.1 (Or.inl (by decide)) (so_268 h0 g _) rfl cf_X11_binds wq1748 wq163 wq1746 (c_X11_bindsM l D g T h0 s_156 hW.2.1 x62 rx62 x63 rx63 n rn (by omega) q156_0 q156_1 q156_2) ⟨rfl, rfl, ⟨by decide, by decide⟩, ⟨by decide, by decide⟩⟩ rfl rfl (Nat.le_of_ble_eq_true rfl) dX11_together_194) hW (fun s65 H locs hp66 hW => ?_)
                        obtain ⟨fs65, hp66⟩ := hp66
                        have hF67 := hF_156.call fs65 (fun k h => by omega)
                        have q68 : s65 268 58 = s0 268 58 := (congrFun (fs65 _ (by omega)) _).trans q156_3
                        have q69 : s65 268 8 = 0 := (congrFun (fs65 _ (by omega)) _).trans q156_4
                        have ghp66 := hp66.2
                        obtain ⟨lo9, hi9, B1, B2, B3⟩ := ghp66
                        rw [← ep177, ← ep192] at B1 B2
                        have Z194 : zgr (xm8 (s0 276)) n true (i4_156 + 1).toNat = jn lo9 hi9 (zgr (xm8 (s0 276)) n true (i4_156).toNat) := zgr_m (xm8 (s0 276)) n (by omega) (a := s_156 306 p177) (b := s_156 306 p192) (by rw [F177]; exact v156_1 p177 (by omega) (by omega)) (by rw [F192]; exact v156_1 p192 (by omega) (by omega)) B1 B2
                        refine x_iinc (lv' := [(4, .int (xJ (i4_156 + 1))), (0, .ref (h0 + 268)), (1, .int (xJ n)), (2, .int (xJ x)), (3, .int (xJ x12))]) hx hb hl 4 rfl dX11_together_197 (by decide) rfl (fun ls hl => ?_)
                        refine lv_goto (tgt := 156) hx hb dX11_together_200 (by decide) ?_
                        exact ih156 (i4_156 + 1) s65 H locs ls (by omega) hF67 hp66.1.1 hp66.1.2.1 hp66.1.2.2.1 q68 q69 (by omega) (fun i i1 i2 => by rw [B3 i i1 i2, Z194]; unfold jn; rw [v156_1 i i1 i2]) (fun i i1 i2 => by rw [fs65 307 (by omega)]; exact v156_2 i i1 i2) (by omega) hW (lv_sub hl [1, 2, 3, 4, 0] rfl)
                    exact L156 ((12 - 0 : Int).toNat + 1) 0 s_81 H locs ls (by decide) hF_81 q81_0 q81_1 q81_2 q81_3 q81_4 (by omega) (fun i i1 i2 => (v81_1 i i1 (by omega)).1) (fun i i1 i2 => (v81_1 i i1 (by omega)).2) (Nat.lt_succ_self _) hW (lv_sub hl [1, 2, 3, 4, 0] rfl)
                  refine x_aload_n hx hb hl 0 rfl dX11_together_121 rfl ?_
                  refine x_get (j := 7) (v := .ref (h0 + 276)) hx hb hown hT hE hW cls_X11 (Or.inl (by decide)) (so_268 h0 g _) (by decide) rfl wq1192 dX11_together_122 ?_
                  refine x_iconst hx hb dX11_together_125 ?_
                  refine x_iload_n hx hb hl 1 rfl dX11_together_126 rfl ?_
                  refine x_imul hx hb dX11_together_127 ?_
                  refine x_iconst hx hb dX11_together_128 ?_
                  refine x_iadd hx hb dX11_together_129 ?_
                  refine x_iload hx hb hl 4 rfl dX11_together_130 ?_
                  refine x_iadd hx hb dX11_together_132 ?_
                  refine x_bald hx hb hE hW (Or.inl (by decide)) (sa_276 h0 g _) (by omega) (by decide) dX11_together_133 ?_
                  refine x_rd hW (fun x70 ex70 rx70 => ?_)
                  have V133 : x70 = s0 276 (2 * n + 1 + i4_113) := by rw [ex70, hF_81 276 (by omega)]
                  have b133 := hb8 (2 * n + 1 + i4_113)
                  refine x_iconst hx hb dX11_together_134 ?_
                  refine x_iload_n hx hb hl 1 rfl dX11_together_135 rfl ?_
                  refine x_iconst hx hb dX11_together_136 ?_
                  refine x_isub hx hb dX11_together_137 ?_
                  refine x_goi (x_runS (As := [.int (xJ x70), .int (xJ 0), .int (xJ (n - 1))]) hx hb hml hown hT hE hW hl.1 cf_X11_in wq1383 wq1382 (c_X11_in l D g T h0 s_81 hW.2.1 x70 rx70 0 (by decide) (n - 1) (by omega)) ⟨rfl, rfl, ⟨by decide, by decide⟩, ⟨by decide, by decide⟩⟩ rfl rfl (Nat.le_of_ble_eq_true rfl) dX11_together_138) hW (fun x71 s72 H locs rx71 hp73 hW => ?_)
                  obtain ⟨es72, hp73⟩ := hp73
                  subst es72
                  have ghp73 := hp73
                  refine x_if_ne (tgt := 147) hx hb rx71 dX11_together_141 (by decide) (fun c74 => ?_) (fun c74 => ?_)
                  · skip
                    refine x_iinc (lv' := [(4, .int (xJ (i4_113 + 1))), (0, .ref (h0 + 268)), (1, .int (xJ n)), (2, .int (xJ x)), (3, .int (xJ x12))]) hx hb hl 4 rfl dX11_together_147 (by decide) rfl (fun ls hl => ?_)
                    refine lv_goto (tgt := 113) hx hb dX11_together_150 (by decide) ?_
                    exact ih113 (i4_113 + 1) H locs ls (by omega) (by omega) (fun q h1 h2 => (Classical.em (q < (i4_113 + 1) - 1)).elim (fun hq => v113_1 q h1 (by omega)) (fun hq => by rw [show q = i4_113 from by omega, ← hF_81 276 (by omega)]; omega)) (by omega) hW (lv_sub hl [1, 2, 3, 4, 0] rfl)
                  refine x_bipush hx hb dX11_together_144 (by decide) ?_
                  rw [eQ]
                  exact x_iret hx hb hr hlk hW (by decide) ⟨hF_81, ⟨q81_0, q81_1, q81_2, q81_3, trivial⟩, Or.inr ⟨by omega, by omega, Or.inl ⟨fun z => by
      have z9 : s0 276 (2 * n + 1 + i4_113) % 256 < n := z.2 i4_113 (by omega) (by omega)
      omega, by omega⟩⟩⟩ dX11_together_146
              exact L113 ((2 * x12 - 0 : Int).toNat + 1) 0 H locs ls (by decide) (by omega) (fun q h1 h2 => False.elim (by omega)) (Nat.lt_succ_self _) hW (lv_sub hl [1, 2, 3, 4, 0] rfl)
            refine x_aload_n hx hb hl 0 rfl dX11_together_87 rfl ?_
            refine x_get (j := 56) (v := .ref (h0 + 306)) hx hb hown hT hE hW cls_X11 (Or.inl (by decide)) (so_268 h0 g _) (by decide) rfl wq1241 dX11_together_88 ?_
            refine x_iload hx hb hl 4 rfl dX11_together_91 ?_
            refine x_iload hx hb hl 4 rfl dX11_together_93 ?_
            refine x_iast hx hb hE hW (by decide) (fun σ => sa_306 h0 g σ) (by omega) (by decide) ri4_81 dX11_together_95 (fun H locs s75 es75 hW => ?_)
            have q76 : IMn s75 := by rw [es75]; exact IMn_o (by unfold suIMn; omega) q81_0
            have q77 : IMk s75 := by rw [es75]; exact IMk_o (by unfold suIMk; omega) q81_1
            have q78 : IMo s75 := by rw [es75]; exact IMo_306 q81_2 (by omega)
            have q79 : s75 268 58 = s0 268 58 := (show s75 268 58 = s_81 268 58 from by rw [es75, xU_k _ _ _ (by omega)]).trans q81_3
            have q80 : s75 268 8 = 0 := (show s75 268 8 = s_81 268 8 from by rw [es75, xU_k _ _ _ (by omega)]).trans q81_4
            have hF81 := hF_81.put es75 (by omega)
            have E95 := es75
            refine x_aload_n hx hb hl 0 rfl dX11_together_96 rfl ?_
            refine x_get (j := 57) (v := .ref (h0 + 307)) hx hb hown hT hE hW cls_X11 (Or.inl (by decide)) (so_268 h0 g _) (by decide) rfl wq1242 dX11_together_97 ?_
            refine x_iload hx hb hl 4 rfl dX11_together_100 ?_
            refine x_iconst hx hb dX11_together_102 ?_
            refine x_iast hx hb hE hW (by decide) (fun σ => sa_307 h0 g σ) (by omega) (by decide) (by decide) dX11_together_103 (fun H locs s82 es82 hW => ?_)
            have q83 : IMn s82 := by rw [es82]; exact IMn_o (by unfold suIMn; omega) q76
            have q84 : IMk s82 := by rw [es82]; exact IMk_o (by unfold suIMk; omega) q77
            have q85 : IMo s82 := by rw [es82]; exact IMo_o (by unfold suIMo; omega) q78
            have q86 : s82 268 58 = s0 268 58 := (show s82 268 58 = s75 268 58 from by rw [es82, xU_k _ _ _ (by omega)]).trans q79
            have q87 : s82 268 8 = 0 := (show s82 268 8 = s75 268 8 from by rw [es82, xU_k _ _ _ (by omega)]).trans q80
            have hF88 := hF81.put es82 (by omega)
            have E103 := es82
            refine x_iinc (lv' := [(4, .int (xJ (i4_81 + 1))), (0, .ref (h0 + 268)), (1, .int (xJ n)), (2, .int (xJ x)), (3, .int (xJ x12))]) hx hb hl 4 rfl dX11_together_104 (by decide) rfl (fun ls hl => ?_)
            refine lv_goto (tgt := 81) hx hb dX11_together_107 (by decide) ?_
            exact ih81 (i4_81 + 1) s82 H locs ls (by omega) hF88 q83 q84 q85 q86 q87 (by omega) (fun i i1 i2 => (Classical.em (i < i4_81)).elim (fun h => ⟨by rw [E103, xU_k _ _ _ (by omega), E95, xU_j _ _ (by omega)]; exact (v81_1 i i1 h).1, by rw [E103, xU_j _ _ (by omega), E95, xU_k _ _ _ (by omega)]; exact (v81_1 i i1 h).2⟩) (fun h => by rw [show i = i4_81 from by omega]; exact ⟨by rw [E103, xU_k _ _ _ (by omega), E95, xU_s], by rw [E103, xU_s]⟩)) (by omega) hW (lv_sub hl [1, 2, 3, 4, 0] rfl)
        exact L81 ((8 - 0 : Int).toNat + 1) 0 s15 H locs ls (by decide) hF21 q16 q17 q18 q19 q20 (by omega) (fun i i1 i2 => absurd i2 (by omega)) (Nat.lt_succ_self _) hW (lv_sub hl [2, 3, 4, 1, 0] rfl)
      refine x_bipush hx hb dX11_together_75 (by decide) ?_
      rw [eQ]
      exact x_iret hx hb hr hlk hW (by decide) ⟨hF21, ⟨q16, q17, q18, q19, trivial⟩, Or.inr ⟨by omega, by omega, Or.inl ⟨fun z => by have := z.1; omega, by omega⟩⟩⟩ dX11_together_77
    refine x_iconst hx hb dX11_together_62 ?_
    rw [eQ]
    exact x_iret hx hb hr hlk hW (by decide) ⟨hF, ⟨p0, p1, p2, k268_58, trivial⟩, Or.inl ⟨by omega, by omega, by omega⟩⟩ dX11_together_63
  refine x_iconst hx hb dX11_together_31 ?_
  rw [eQ]
  exact x_iret hx hb hr hlk hW (by decide) ⟨hF, ⟨p0, p1, p2, k268_58, trivial⟩, Or.inl ⟨by omega, by omega, by omega⟩⟩ dX11_together_32
