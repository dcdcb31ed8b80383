set_option maxHeartbeats 4000000 in
set_option maxRecDepth 100000 in
theorem c_X11_isGroundM (l : Launch) (D : va_G) (g : xG) (T : Nat × Nat × Nat) (h0 : Nat) (s0 : xS) (hσ : xRR s0) (x : Int) (rx : xR x) (hx0 : 0 ≤ x ∧ x ≤ 99) (p0 : IMn s0) (p1 : IMk s0) (p2 : IMo s0) : Met l yX11_isGround (xws yX11_isGround cX11_isGround 2 (some .boolean)) { frames := 0, cells := 0, slots := 0, locals := 0 } (xP [.ref (h0 + 268), .int (xJ x)] D g T h0 s0) (xQi D g h0 (fun r τ => s0 = τ ∧ ((r = 1 ∧ (s0 272 x = 0 ∨ s0 272 x = 2)) ∨ (r = 0 ∧ s0 272 x ≠ 0 ∧ s0 272 x ≠ 2)))) 0 0 (xA h0) := by
  refine x_met hσ (by decide) (Nat.le_of_ble_eq_true rfl) ?_
  intro p e s m args below meth c hx hb hr hml hown hT hlk hnm hE hW ls hl
  have hl : lv_has ls 2 [(0, .ref (h0 + 268)), (1, .int (xJ x))] := hl
  obtain ⟨Q, eQ⟩ : ∃ Q, Q = MQ below (xQi D g h0 (fun r τ => s0 = τ ∧ ((r = 1 ∧ (s0 272 x = 0 ∨ s0 272 x = 2)) ∨ (r = 0 ∧ s0 272 x ≠ 0 ∧ s0 272 x ≠ 2)))) args s 0 0 (xA h0) := ⟨_, rfl⟩
  rw [← eQ]
  generalize hHe : ([] : List Loc) = locs at hW ⊢
  obtain ⟨H, eH⟩ : ∃ H, H = s.heap := ⟨_, rfl⟩
  rw [← eH] at hW ⊢
  have k268_8 : s0 268 8 = s0 268 8 := rfl
  have k268_58 : s0 268 58 = s0 268 58 := rfl
  refine x_aload_n hx hb hl 0 rfl dX11_isGround_0 rfl ?_
  refine x_get (j := 3) (v := .ref (h0 + 272)) hx hb hown hT hE hW cls_X11 (Or.inl (by decide)) (so_268 h0 g _) (by decide) rfl wq1188 dX11_isGround_1 ?_
  refine x_iload_n hx hb hl 1 rfl dX11_isGround_4 rfl ?_
  refine x_iald hx hb hE hW (Or.inl (by decide)) (sa_272 h0 g _) (by omega) (by decide) dX11_isGround_5 ?_
  refine x_rd hW (fun x1 ex1 rx1 => ?_)
  refine x_if_eq (tgt := 19) hx hb rx1 dX11_isGround_6 (by decide) (fun c2 => ?_) (fun c2 => ?_)
  · skip
    refine x_iconst hx hb dX11_isGround_19 ?_
    refine lv_goto (tgt := 24) hx hb dX11_isGround_20 (by decide) ?_
    rw [eQ]
    exact x_zret hx hb hr hlk hW (by omega) ⟨rfl, by omega⟩ dX11_isGround_24
  refine x_aload_n hx hb hl 0 rfl dX11_isGround_9 rfl ?_
  refine x_get (j := 3) (v := .ref (h0 + 272)) hx hb hown hT hE hW cls_X11 (Or.inl (by decide)) (so_268 h0 g _) (by decide) rfl wq1188 dX11_isGround_10 ?_
  refine x_iload_n hx hb hl 1 rfl dX11_isGround_13 rfl ?_
  refine x_iald hx hb hE hW (Or.inl (by decide)) (sa_272 h0 g _) (by omega) (by decide) dX11_isGround_14 ?_
  refine x_rd hW (fun x3 ex3 rx3 => ?_)
  refine x_iconst hx hb dX11_isGround_15 ?_
  refine x_icmp_ne (tgt := 23) hx hb rx3 (by decide) dX11_isGround_16 (by decide) (fun c4 => ?_) (fun c4 => ?_)
  · skip
    refine x_iconst hx hb dX11_isGround_23 ?_
    rw [eQ]
    exact x_zret hx hb hr hlk hW (by omega) ⟨rfl, by omega⟩ dX11_isGround_24
  refine x_iconst hx hb dX11_isGround_19 ?_
  refine lv_goto (tgt := 24) hx hb dX11_isGround_20 (by decide) ?_
  rw [eQ]
  exact x_zret hx hb hr hlk hW (by omega) ⟨rfl, by omega⟩ dX11_isGround_24


set_option maxHeartbeats 4000000 in
set_option maxRecDepth 100000 in
theorem c_X11_copiesMA (l : Launch) (D : va_G) (g : xG) (T : Nat × Nat × Nat) (h0 : Nat) (s0 : xS) (hσ : xRR s0) (p0 : IMn s0) (p1 : IMk s0) (p2 : IMo s0) : Met l yX11_copies (xws yX11_copies cX11_copies 3 none) { frames := 0, cells := 0, slots := 0, locals := 0 } (xP [.ref (h0 + 269), .ref (h0 + 270)] D g T h0 s0) (xQv D g h0 (fun τ => xFr (fun k => k = 270) s0 τ ∧ (((IMn τ) ∧ (IMk τ) ∧ (IMo τ) ∧ True) ∧ (∀ q : Int, 0 ≤ q → q < 39 → τ 270 q = s0 269 q)))) 0 0 (xA h0) := by
  refine x_met hσ (by decide) (Nat.le_of_ble_eq_true rfl) ?_
  intro p e s m args below meth c hx hb hr hml hown hT hlk hnm hE hW ls hl
  have hl : lv_has ls 3 [(0, .ref (h0 + 269)), (1, .ref (h0 + 270))] := hl
  obtain ⟨Q, eQ⟩ : ∃ Q, Q = MQ below (xQv D g h0 (fun τ => xFr (fun k => k = 270) s0 τ ∧ (((IMn τ) ∧ (IMk τ) ∧ (IMo τ) ∧ True) ∧ (∀ q : Int, 0 ≤ q → q < 39 → τ 270 q = s0 269 q)))) args s 0 0 (xA h0) := ⟨_, rfl⟩
  rw [← eQ]
  generalize hHe : ([] : List Loc) = locs at hW ⊢
  obtain ⟨H, eH⟩ : ∃ H, H = s.heap := ⟨_, rfl⟩
  rw [← eH] at hW ⊢
  have hF : xFr (fun k => k = 270) s0 s0 := xFr.rf
  have k268_8 : s0 268 8 = s0 268 8 := rfl
  have k268_58 : s0 268 58 = s0 268 58 := rfl
  have k269_37 : s0 269 37 = s0 269 37 := rfl
  refine x_iconst hx hb dX11_copies_0 ?_
  refine lv_istore_n (lv' := [(2, .int (xJ 0)), (0, .ref (h0 + 269)), (1, .ref (h0 + 270))]) hx hb dX11_copies_1 rfl hl (by decide) rfl (fun ls hl => ?_)
  have L2 : ∀ (fu : Nat) (i2_2 : Int) (s_2 : xS) (H : Heap) (locs : List Loc) (ls : Array Slot), (xR i2_2) → (xFr (fun k => k = 270) s0 s_2) → (IMn s_2) → (IMk s_2) → (IMo s_2) → (s_2 268 8 = s0 268 8) → (s_2 268 58 = s0 268 58) → (s_2 269 37 = s0 269 37) → (0 ≤ i2_2) → (i2_2 ≤ 39) → (∀ q : Int, 0 ≤ q → q < i2_2 → s_2 270 q = s0 269 q) → (39 + 1 - i2_2).toNat < fu → xW D g h0 s H locs s_2 → lv_has ls 3 [(0, .ref (h0 + 269)), (1, .ref (h0 + 270)), (2, .int (xJ i2_2))] → W p l e { frames := 0, cells := 0, slots := 0, locals := 0 } s m args below meth c H locs 0 0 Q (F0 m 2 ls []) := by
    intro fu
    induction fu with
    | zero => intro i2_2 s_2 H locs ls ri2_2 hF_2 q2_0 q2_1 q2_2 q2_3 q2_4 q2_5 v2_0 v2_1 v2_2 hm; exact absurd hm (Nat.not_lt_zero _)
    | succ fu ih2 =>
      intro i2_2 s_2 H locs ls ri2_2 hF_2 q2_0 q2_1 q2_2 q2_3 q2_4 q2_5 v2_0 v2_1 v2_2 hm hW hl
      refine x_iload_n hx hb hl 2 rfl dX11_copies_2 rfl ?_
      refine x_bipush hx hb dX11_copies_3 (by decide) ?_
      refine x_icmp_ge (tgt := 20) hx hb ri2_2 (by decide) dX11_copies_5 (by decide) (fun c1 => ?_) (fun c1 => ?_)
      · skip
        rw [eQ]
        exact x_vret hx hb hr hlk hW ⟨hF_2, ⟨q2_0, q2_1, q2_2, trivial⟩, fun q q1 q2 => v2_2 q q1 (by omega)⟩ dX11_copies_20
      refine x_aload_n hx hb hl 1 rfl dX11_copies_8 rfl ?_
      refine x_iload_n hx hb hl 2 rfl dX11_copies_9 rfl ?_
      refine x_aload_n hx hb hl 0 rfl dX11_copies_10 rfl ?_
      refine x_iload_n hx hb hl 2 rfl dX11_copies_11 rfl ?_
      refine x_iald hx hb hE hW (Or.inl (by decide)) (sa_269 h0 g _) (by omega) (by decide) dX11_copies_12 ?_
      refine x_rd hW (fun x2 ex2 rx2 => ?_)
      have bx2 := okN_v (IMn.n1 q2_0) i2_2
      rw [← ex2] at bx2
      have R12 := ex2
      refine x_iast hx hb hE hW (by decide) (fun σ => sa_270 h0 g σ) (by omega) (by decide) rx2 dX11_copies_13 (fun H locs s3 es3 hW => ?_)
      have q4 : IMn s3 := by rw [es3]; exact IMn_N270 q2_0 (by omega)
      have q5 : IMk s3 := by rw [es3]; exact IMk_o (by unfold suIMk; omega) q2_1
      have q6 : IMo s3 := by rw [es3]; exact IMo_o (by unfold suIMo; omega) q2_2
      have q7 : s3 268 8 = s0 268 8 := (show s3 268 8 = s_2 268 8 from by rw [es3, xU_k _ _ _ (by omega)]).trans q2_3
      have q8 : s3 268 58 = s0 268 58 := (show s3 268 58 = s_2 268 58 from by rw [es3, xU_k _ _ _ (by omega)]).trans q2_4
      have q9 : s3 269 37 = s0 269 37 := (show s3 269 37 = s_2 269 37 from by rw [es3, xU_k _ _ _ (by omega)]).trans q2_5
      have hF10 := hF_2.put es3 (by omega)
      have E13 := es3
      refine x_iinc (lv' := [(2, .int (xJ (i2_2 + 1))), (0, .ref (h0 + 269)), (1, .ref (h0 + 270))]) hx hb hl 2 rfl dX11_copies_14 (by decide) rfl (fun ls hl => ?_)
      refine lv_goto (tgt := 2) hx hb dX11_copies_17 (by decide) ?_
      exact ih2 (i2_2 + 1) s3 H locs ls (by omega) hF10 q4 q5 q6 q7 q8 q9 (by omega) (by omega) (fun q q1 q2 => (Classical.em (q < i2_2)).elim (fun h => by rw [E13, xU_j _ _ (by omega)]; exact v2_2 q q1 h) (fun h => by rw [show q = i2_2 from by omega, E13, xU_s, R12, hF_2 269 (by omega)])) (by omega) hW (lv_sub hl [1, 2, 0] rfl)
  exact L2 ((39 + 1 - 0 : Int).toNat + 1) 0 s0 H locs ls (by decide) hF p0 p1 p2 k268_8 k268_58 k269_37 (by omega) (by omega) (fun q q1 q2 => absurd q2 (by omega)) (Nat.lt_succ_self _) hW (lv_sub hl [1, 2, 0] rfl)
set_option maxHeartbeats 4000000 in
set_option maxRecDepth 100000 in
theorem c_X11_copiesMB (l : Launch) (D : va_G) (g : xG) (T : Nat × Nat × Nat) (h0 : Nat) (s0 : xS) (hσ : xRR s0) (p0 : IMn s0) (p1 : IMk s0) (p2 : IMo s0) : Met l yX11_copies (xws yX11_copies cX11_copies 3 none) { frames := 0, cells := 0, slots := 0, locals := 0 } (xP [.ref (h0 + 270), .ref (h0 + 269)] D g T h0 s0) (xQv D g h0 (fun τ => xFr (fun k => k = 269) s0 τ ∧ (((IMn τ) ∧ (IMk τ) ∧ (IMo τ) ∧ True) ∧ (∀ q : Int, 0 ≤ q → q < 39 → τ 269 q = s0 270 q)))) 0 0 (xA h0) := by
  refine x_met hσ (by decide) (Nat.le_of_ble_eq_true rfl) ?_
  intro p e s m args below meth c hx hb hr hml hown hT hlk hnm hE hW ls hl
  have hl : lv_has ls 3 [(0, .ref (h0 + 270)), (1, .ref (h0 + 269))] := hl
  obtain ⟨Q, eQ⟩ : ∃ Q, Q = MQ below (xQv D g h0 (fun τ => xFr (fun k => k = 269) s0 τ ∧ (((IMn τ) ∧ (IMk τ) ∧ (IMo τ) ∧ True) ∧ (∀ q : Int, 0 ≤ q → q < 39 → τ 269 q = s0 270 q)))) args s 0 0 (xA h0) := ⟨_, rfl⟩
  rw [← eQ]
  generalize hHe : ([] : List Loc) = locs at hW ⊢
  obtain ⟨H, eH⟩ : ∃ H, H = s.heap := ⟨_, rfl⟩
  rw [← eH] at hW ⊢
  have hF : xFr (fun k => k = 269) s0 s0 := xFr.rf
  have k268_8 : s0 268 8 = s0 268 8 := rfl
  have k268_58 : s0 268 58 = s0 268 58 := rfl
  refine x_iconst hx hb dX11_copies_0 ?_
  refine lv_istore_n (lv' := [(2, .int (xJ 0)), (0, .ref (h0 + 270)), (1, .ref (h0 + 269))]) hx hb dX11_copies_1 rfl hl (by decide) rfl (fun ls hl => ?_)
  have L2 : ∀ (fu : Nat) (i2_2 : Int) (s_2 : xS) (H : Heap) (locs : List Loc) (ls : Array Slot), (xR i2_2) → (xFr (fun k => k = 269) s0 s_2) → (IMn s_2) → (IMk s_2) → (IMo s_2) → (s_2 268 8 = s0 268 8) → (s_2 268 58 = s0 268 58) → (0 ≤ i2_2) → (i2_2 ≤ 39) → (∀ q : Int, 0 ≤ q → q < i2_2 → s_2 269 q = s0 270 q) → (39 + 1 - i2_2).toNat < fu → xW D g h0 s H locs s_2 → lv_has ls 3 [(0, .ref (h0 + 270)), (1, .ref (h0 + 269)), (2, .int (xJ i2_2))] → W p l e { frames := 0, cells := 0, slots := 0, locals := 0 } s m args below meth c H locs 0 0 Q (F0 m 2 ls []) := by
    intro fu
    induction fu with
    | zero => intro i2_2 s_2 H locs ls ri2_2 hF_2 q2_0 q2_1 q2_2 q2_3 q2_4 v2_0 v2_1 v2_2 hm; exact absurd hm (Nat.not_lt_zero _)
    | succ fu ih2 =>
      intro i2_2 s_2 H locs ls ri2_2 hF_2 q2_0 q2_1 q2_2 q2_3 q2_4 v2_0 v2_1 v2_2 hm hW hl
      refine x_iload_n hx hb hl 2 rfl dX11_copies_2 rfl ?_
      refine x_bipush hx hb dX11_copies_3 (by decide) ?_
      refine x_icmp_ge (tgt := 20) hx hb ri2_2 (by decide) dX11_copies_5 (by decide) (fun c1 => ?_) (fun c1 => ?_)
      · skip
        rw [eQ]
        exact x_vret hx hb hr hlk hW ⟨hF_2, ⟨q2_0, q2_1, q2_2, trivial⟩, fun q q1 q2 => v2_2 q q1 (by omega)⟩ dX11_copies_20
      refine x_aload_n hx hb hl 1 rfl dX11_copies_8 rfl ?_
      refine x_iload_n hx hb hl 2 rfl dX11_copies_9 rfl ?_
      refine x_aload_n hx hb hl 0 rfl dX11_copies_10 rfl ?_
      refine x_iload_n hx hb hl 2 rfl dX11_copies_11 rfl ?_
      refine x_iald hx hb hE hW (Or.inl (by decide)) (sa_270 h0 g _) (by omega) (by decide) dX11_copies_12 ?_
      refine x_rd hW (fun x2 ex2 rx2 => ?_)
      have bx2 := okN_v (IMn.n2 q2_0) i2_2
      rw [← ex2] at bx2
      have R12 := ex2
      refine x_iast hx hb hE hW (by decide) (fun σ => sa_269 h0 g σ) (by omega) (by decide) rx2 dX11_copies_13 (fun H locs s3 es3 hW => ?_)
      have q4 : IMn s3 := by rw [es3]; exact IMn_N269 q2_0 (by omega)
      have q5 : IMk s3 := by rw [es3]; exact IMk_o (by unfold suIMk; omega) q2_1
      have q6 : IMo s3 := by rw [es3]; exact IMo_o (by unfold suIMo; omega) q2_2
      have q7 : s3 268 8 = s0 268 8 := (show s3 268 8 = s_2 268 8 from by rw [es3, xU_k _ _ _ (by omega)]).trans q2_3
      have q8 : s3 268 58 = s0 268 58 := (show s3 268 58 = s_2 268 58 from by rw [es3, xU_k _ _ _ (by omega)]).trans q2_4
      have hF9 := hF_2.put es3 (by omega)
      have E13 := es3
      refine x_iinc (lv' := [(2, .int (xJ (i2_2 + 1))), (0, .ref (h0 + 270)), (1, .ref (h0 + 269))]) hx hb hl 2 rfl dX11_copies_14 (by decide) rfl (fun ls hl => ?_)
      refine lv_goto (tgt := 2) hx hb dX11_copies_17 (by decide) ?_
      exact ih2 (i2_2 + 1) s3 H locs ls (by omega) hF9 q4 q5 q6 q7 q8 (by omega) (by omega) (fun q q1 q2 => (Classical.em (q < i2_2)).elim (fun h => by rw [E13, xU_j _ _ (by omega)]; exact v2_2 q q1 h) (fun h => by rw [show q = i2_2 from by omega, E13, xU_s, R12, hF_2 270 (by omega)])) (by omega) hW (lv_sub hl [1, 2, 0] rfl)
  exact L2 ((39 + 1 - 0 : Int).toNat + 1) 0 s0 H locs ls (by decide) hF p0 p1 p2 k268_8 k268_58 (by omega) (by omega) (fun q q1 q2 => absurd q2 (by omega)) (Nat.lt_succ_self _) hW (lv_sub hl [1, 2, 0] rfl)
set_option maxHeartbeats 4000000 in
set_option maxRecDepth 100000 in
theorem c_X11_copiesMK (l : Launch) (D : va_G) (g : xG) (T : Nat × Nat × Nat) (h0 : Nat) (s0 : xS) (hσ : xRR s0) (p0 : IMn s0) (p1 : IMk s0) (p2 : IMo s0) : Met l yX11_copies (xws yX11_copies cX11_copies 3 none) { frames := 0, cells := 0, slots := 0, locals := 0 } (xP [.ref (h0 + 269), .ref (h0 + 271)] D g T h0 s0) (xQv D g h0 (fun τ => xFr (fun k => k = 271) s0 τ ∧ (((IMn τ) ∧ (IMk τ) ∧ (IMo τ) ∧ True) ∧ (∀ q : Int, 0 ≤ q → q < 39 → τ 271 q = s0 269 q)))) 0 0 (xA h0) := by
  refine x_met hσ (by decide) (Nat.le_of_ble_eq_true rfl) ?_
  intro p e s m args below meth c hx hb hr hml hown hT hlk hnm hE hW ls hl
  have hl : lv_has ls 3 [(0, .ref (h0 + 269)), (1, .ref (h0 + 271))] := hl
  obtain ⟨Q, eQ⟩ : ∃ Q, Q = MQ below (xQv D g h0 (fun τ => xFr (fun k => k = 271) s0 τ ∧ (((IMn τ) ∧ (IMk τ) ∧ (IMo τ) ∧ True) ∧ (∀ q : Int, 0 ≤ q → q < 39 → τ 271 q = s0 269 q)))) args s 0 0 (xA h0) := ⟨_, rfl⟩
  rw [← eQ]
  generalize hHe : ([] : List Loc) = locs at hW ⊢
  obtain ⟨H, eH⟩ : ∃ H, H = s.heap := ⟨_, rfl⟩
  rw [← eH] at hW ⊢
  have hF : xFr (fun k => k = 271) s0 s0 := xFr.rf
  have k268_8 : s0 268 8 = s0 268 8 := rfl
  have k268_58 : s0 268 58 = s0 268 58 := rfl
  have k269_37 : s0 269 37 = s0 269 37 := rfl
  refine x_iconst hx hb dX11_copies_0 ?_
  refine lv_istore_n (lv' := [(2, .int (xJ 0)), (0, .ref (h0 + 269)), (1, .ref (h0 + 271))]) hx hb dX11_copies_1 rfl hl (by decide) rfl (fun ls hl => ?_)
  have L2 : ∀ (fu : Nat) (i2_2 : Int) (s_2 : xS) (H : Heap) (locs : List Loc) (ls : Array Slot), (xR i2_2) → (xFr (fun k => k = 271) s0 s_2) → (IMn s_2) → (IMk s_2) → (IMo s_2) → (s_2 268 8 = s0 268 8) → (s_2 268 58 = s0 268 58) → (s_2 269 37 = s0 269 37) → (0 ≤ i2_2) → (i2_2 ≤ 39) → (∀ q : Int, 0 ≤ q → q < i2_2 → s_2 271 q = s0 269 q) → (39 + 1 - i2_2).toNat < fu → xW D g h0 s H locs s_2 → lv_has ls 3 [(0, .ref (h0 + 269)), (1, .ref (h0 + 271)), (2, .int (xJ i2_2))] → W p l e { frames := 0, cells := 0, slots := 0, locals := 0 } s m args below meth c H locs 0 0 Q (F0 m 2 ls []) := by
    intro fu
    induction fu with
    | zero => intro i2_2 s_2 H locs ls ri2_2 hF_2 q2_0 q2_1 q2_2 q2_3 q2_4 q2_5 v2_0 v2_1 v2_2 hm; exact absurd hm (Nat.not_lt_zero _)
    | succ fu ih2 =>
      intro i2_2 s_2 H locs ls ri2_2 hF_2 q2_0 q2_1 q2_2 q2_3 q2_4 q2_5 v2_0 v2_1 v2_2 hm hW hl
      refine x_iload_n hx hb hl 2 rfl dX11_copies_2 rfl ?_
      refine x_bipush hx hb dX11_copies_3 (by decide) ?_
      refine x_icmp_ge (tgt := 20) hx hb ri2_2 (by decide) dX11_copies_5 (by decide) (fun c1 => ?_) (fun c1 => ?_)
      · skip
        rw [eQ]
        exact x_vret hx hb hr hlk hW ⟨hF_2, ⟨q2_0, q2_1, q2_2, trivial⟩, fun q q1 q2 => v2_2 q q1 (by omega)⟩ dX11_copies_20
      refine x_aload_n hx hb hl 1 rfl dX11_copies_8 rfl ?_
      refine x_iload_n hx hb hl 2 rfl dX11_copies_9 rfl ?_
      refine x_aload_n hx hb hl 0 rfl dX11_copies_10 rfl ?_
      refine x_iload_n hx hb hl 2 rfl dX11_copies_11 rfl ?_
      refine x_iald hx hb hE hW (Or.inl (by decide)) (sa_269 h0 g _) (by omega) (by decide) dX11_copies_12 ?_
      refine x_rd hW (fun x2 ex2 rx2 => ?_)
      have bx2 := okN_v (IMn.n1 q2_0) i2_2
      rw [← ex2] at bx2
      have R12 := ex2
      refine x_iast hx hb hE hW (by decide) (fun σ => sa_271 h0 g σ) (by omega) (by decide) rx2 dX11_copies_13 (fun H locs s3 es3 hW => ?_)
      have q4 : IMn s3 := by rw [es3]; exact IMn_N271 q2_0 (by omega)
      have q5 : IMk s3 := by rw [es3]; exact IMk_o (by unfold suIMk; omega) q2_1
      have q6 : IMo s3 := by rw [es3]; exact IMo_o (by unfold suIMo; omega) q2_2
      have q7 : s3 268 8 = s0 268 8 := (show s3 268 8 = s_2 268 8 from by rw [es3, xU_k _ _ _ (by omega)]).trans q2_3
      have q8 : s3 268 58 = s0 268 58 := (show s3 268 58 = s_2 268 58 from by rw [es3, xU_k _ _ _ (by omega)]).trans q2_4
      have q9 : s3 269 37 = s0 269 37 := (show s3 269 37 = s_2 269 37 from by rw [es3, xU_k _ _ _ (by omega)]).trans q2_5
      have hF10 := hF_2.put es3 (by omega)
      have E13 := es3
      refine x_iinc (lv' := [(2, .int (xJ (i2_2 + 1))), (0, .ref (h0 + 269)), (1, .ref (h0 + 271))]) hx hb hl 2 rfl dX11_copies_14 (by decide) rfl (fun ls hl => ?_)
      refine lv_goto (tgt := 2) hx hb dX11_copies_17 (by decide) ?_
      exact ih2 (i2_2 + 1) s3 H locs ls (by omega) hF10 q4 q5 q6 q7 q8 q9 (by omega) (by omega) (fun q q1 q2 => (Classical.em (q < i2_2)).elim (fun h => by rw [E13, xU_j _ _ (by omega)]; exact v2_2 q q1 h) (fun h => by rw [show q = i2_2 from by omega, E13, xU_s, R12, hF_2 269 (by omega)])) (by omega) hW (lv_sub hl [1, 2, 0] rfl)
  exact L2 ((39 + 1 - 0 : Int).toNat + 1) 0 s0 H locs ls (by decide) hF p0 p1 p2 k268_8 k268_58 k269_37 (by omega) (by omega) (fun q q1 q2 => absurd q2 (by omega)) (Nat.lt_succ_self _) hW (lv_sub hl [1, 2, 0] rfl)
set_option maxHeartbeats 4000000 in
set_option maxRecDepth 100000 in
theorem c_X11_copiesMU (l : Launch) (D : va_G) (g : xG) (T : Nat × Nat × Nat) (h0 : Nat) (s0 : xS) (hσ : xRR s0) (p0 : IMn s0) (p1 : IMk s0) (p2 : IMo s0) : Met l yX11_copies (xws yX11_copies cX11_copies 3 none) { frames := 0, cells := 0, slots := 0, locals := 0 } (xP [.ref (h0 + 271), .ref (h0 + 269)] D g T h0 s0) (xQv D g h0 (fun τ => xFr (fun k => k = 269) s0 τ ∧ (((IMn τ) ∧ (IMk τ) ∧ (IMo τ) ∧ True) ∧ (∀ q : Int, 0 ≤ q → q < 39 → τ 269 q = s0 271 q)))) 0 0 (xA h0) := by
  refine x_met hσ (by decide) (Nat.le_of_ble_eq_true rfl) ?_
  intro p e s m args below meth c hx hb hr hml hown hT hlk hnm hE hW ls hl
  have hl : lv_has ls 3 [(0, .ref (h0 + 271)), (1, .ref (h0 + 269))] := hl
  obtain ⟨Q, eQ⟩ : ∃ Q, Q = MQ below (xQv D g h0 (fun τ => xFr (fun k => k = 269) s0 τ ∧ (((IMn τ) ∧ (IMk τ) ∧ (IMo τ) ∧ True) ∧ (∀ q : Int, 0 ≤ q → q < 39 → τ 269 q = s0 271 q)))) args s 0 0 (xA h0) := ⟨_, rfl⟩
  rw [← eQ]
  generalize hHe : ([] : List Loc) = locs at hW ⊢
  obtain ⟨H, eH⟩ : ∃ H, H = s.heap := ⟨_, rfl⟩
  rw [← eH] at hW ⊢
  have hF : xFr (fun k => k = 269) s0 s0 := xFr.rf
  have k268_8 : s0 268 8 = s0 268 8 := rfl
  have k268_58 : s0 268 58 = s0 268 58 := rfl
  refine x_iconst hx hb dX11_copies_0 ?_
  refine lv_istore_n (lv' := [(2, .int (xJ 0)), (0, .ref (h0 + 271)), (1, .ref (h0 + 269))]) hx hb dX11_copies_1 rfl hl (by decide) rfl (fun ls hl => ?_)
  have L2 : ∀ (fu : Nat) (i2_2 : Int) (s_2 : xS) (H : Heap) (locs : List Loc) (ls : Array Slot), (xR i2_2) → (xFr (fun k => k = 269) s0 s_2) → (IMn s_2) → (IMk s_2) → (IMo s_2) → (s_2 268 8 = s0 268 8) → (s_2 268 58 = s0 268 58) → (0 ≤ i2_2) → (i2_2 ≤ 39) → (∀ q : Int, 0 ≤ q → q < i2_2 → s_2 269 q = s0 271 q) → (39 + 1 - i2_2).toNat < fu → xW D g h0 s H locs s_2 → lv_has ls 3 [(0, .ref (h0 + 271)), (1, .ref (h0 + 269)), (2, .int (xJ i2_2))] → W p l e { frames := 0, cells := 0, slots := 0, locals := 0 } s m args below meth c H locs 0 0 Q (F0 m 2 ls []) := by
    intro fu
    induction fu with
    | zero => intro i2_2 s_2 H locs ls ri2_2 hF_2 q2_0 q2_1 q2_2 q2_3 q2_4 v2_0 v2_1 v2_2 hm; exact absurd hm (Nat.not_lt_zero _)
    | succ fu ih2 =>
      intro i2_2 s_2 H locs ls ri2_2 hF_2 q2_0 q2_1 q2_2 q2_3 q2_4 v2_0 v2_1 v2_2 hm hW hl
      refine x_iload_n hx hb hl 2 rfl dX11_copies_2 rfl ?_
      refine x_bipush hx hb dX11_copies_3 (by decide) ?_
      refine x_icmp_ge (tgt := 20) hx hb ri2_2 (by decide) dX11_copies_5 (by decide) (fun c1 => ?_) (fun c1 => ?_)
      · skip
        rw [eQ]
        exact x_vret hx hb hr hlk hW ⟨hF_2, ⟨q2_0, q2_1, q2_2, trivial⟩, fun q q1 q2 => v2_2 q q1 (by omega)⟩ dX11_copies_20
      refine x_aload_n hx hb hl 1 rfl dX11_copies_8 rfl ?_
      refine x_iload_n hx hb hl 2 rfl dX11_copies_9 rfl ?_
      refine x_aload_n hx hb hl 0 rfl dX11_copies_10 rfl ?_
      refine x_iload_n hx hb hl 2 rfl dX11_copies_11 rfl ?_
      refine x_iald hx hb hE hW (Or.inl (by decide)) (sa_271 h0 g _) (by omega) (by decide) dX11_copies_12 ?_
      refine x_rd hW (fun x2 ex2 rx2 => ?_)
      have bx2 := okN_v (IMn.n3 q2_0) i2_2
      rw [← ex2] at bx2
      have R12 := ex2
      refine x_iast hx hb hE hW (by decide) (fun σ => sa_269 h0 g σ) (by omega) (by decide) rx2 dX11_copies_13 (fun H locs s3 es3 hW => ?_)
      have q4 : IMn s3 := by rw [es3]; exact IMn_N269 q2_0 (by omega)
      have q5 : IMk s3 := by rw [es3]; exact IMk_o (by unfold suIMk; omega) q2_1
      have q6 : IMo s3 := by rw [es3]; exact IMo_o (by unfold suIMo; omega) q2_2
      have q7 : s3 268 8 = s0 268 8 := (show s3 268 8 = s_2 268 8 from by rw [es3, xU_k _ _ _ (by omega)]).trans q2_3
      have q8 : s3 268 58 = s0 268 58 := (show s3 268 58 = s_2 268 58 from by rw [es3, xU_k _ _ _ (by omega)]).trans q2_4
      have hF9 := hF_2.put es3 (by omega)
      have E13 := es3
      refine x_iinc (lv' := [(2, .int (xJ (i2_2 + 1))), (0, .ref (h0 + 271)), (1, .ref (h0 + 269))]) hx hb hl 2 rfl dX11_copies_14 (by decide) rfl (fun ls hl => ?_)
      refine lv_goto (tgt := 2) hx hb dX11_copies_17 (by decide) ?_
      exact ih2 (i2_2 + 1) s3 H locs ls (by omega) hF9 q4 q5 q6 q7 q8 (by omega) (by omega) (fun q q1 q2 => (Classical.em (q < i2_2)).elim (fun h => by rw [E13, xU_j _ _ (by omega)]; exact v2_2 q q1 h) (fun h => by rw [show q = i2_2 from by omega, E13, xU_s, R12, hF_2 271 (by omega)])) (by omega) hW (lv_sub hl [1, 2, 0] rfl)
  exact L2 ((39 + 1 - 0 : Int).toNat + 1) 0 s0 H locs ls (by decide) hF p0 p1 p2 k268_8 k268_58 (by omega) (by omega) (fun q q1 q2 => absurd q2 (by omega)) (Nat.lt_succ_self _) hW (lv_sub hl [1, 2, 0] rfl)

/-! ===== a law's text: the signs ===== -/
def zsg (c : Int) : Int := if c = 43 then 2 else if c = 45 then 3 else if c = 42 then 4 else if c = 47 then 5 else if c = 37 then 6 else -1
theorem zsg_cs (c : Int) : (c = 43 ∧ zsg c = 2) ∨ (c = 45 ∧ zsg c = 3) ∨ (c = 42 ∧ zsg c = 4) ∨ (c = 47 ∧ zsg c = 5) ∨ (c = 37 ∧ zsg c = 6) ∨ (c ≠ 43 ∧ c ≠ 45 ∧ c ≠ 42 ∧ c ≠ 47 ∧ c ≠ 37 ∧ zsg c = -1) := by
  unfold zsg
  (repeat' split) <;> omega
def zlt (c : Int) : Int := if c = 116 then 0 else if c = 104 then 1 else if c = 106 then 2 else if c = 102 then 3 else if c = 119 then 4 else if c = 98 then 5 else if c = 115 then 6 else -1
theorem zlt_cs (c : Int) : (c = 116 ∧ zlt c = 0) ∨ (c = 104 ∧ zlt c = 1) ∨ (c = 106 ∧ zlt c = 2) ∨ (c = 102 ∧ zlt c = 3) ∨ (c = 119 ∧ zlt c = 4) ∨ (c = 98 ∧ zlt c = 5) ∨ (c = 115 ∧ zlt c = 6) ∨ (c ≠ 116 ∧ c ≠ 104 ∧ c ≠ 106 ∧ c ≠ 102 ∧ c ≠ 119 ∧ c ≠ 98 ∧ c ≠ 115 ∧ zlt c = -1) := by
  unfold zlt
  (repeat' split) <;> omega
def zcp (c : Int) : Int := if c = 60 then 7 else if c = 62 then 8 else if c = 61 then 9 else -1
theorem zcp_cs (c : Int) : (c = 60 ∧ zcp c = 7) ∨ (c = 62 ∧ zcp c = 8) ∨ (c = 61 ∧ zcp c = 9) ∨ (c ≠ 60 ∧ c ≠ 62 ∧ c ≠ 61 ∧ zcp c = -1) := by
  unfold zcp
  (repeat' split) <;> omega
def zdg (c : Int) : Prop := 48 ≤ c ∧ c ≤ 57
def znr (f : Int → Int) (n : Int) : Nat → Int → Int → Int × Int
  | 0, p, v => (p, v)
  | k + 1, p, v => if 48 ≤ zch f n p ∧ zch f n p ≤ 57 then znr f n k (p + 1) (10 * v + zch f n p - 48) else (p, v)
section NR
variable {f : Int → Int} {n p v p2 v2 : Int} {k k2 : Nat}
theorem znr_go (hk : k = k2 + 1) (hd : zdg (zch f n p)) (hp : p2 = p + 1) (hv : v2 = 10 * v + zch f n p - 48) : znr f n k p v = znr f n k2 p2 v2 := by
  subst hk; subst hp; subst hv
  exact if_pos hd
theorem znr_no (hd : ¬ zdg (zch f n p)) : znr f n k p v = (p, v) := by
  cases k with
  | zero => rfl
  | succ k => exact if_neg hd
theorem znr_0 (hk : k = 0) : znr f n k p v = (p, v) := by subst hk; rfl
theorem zdg_lt (hd : zdg (zch f n p)) : p < n := by
  unfold zdg at hd
  exact zch_lt (f := f) (n := n) (p := p) (by omega)
end NR
theorem znr_p {f : Int → Int} {n : Int} : ∀ (k : Nat) (p v : Int), p ≤ (znr f n k p v).1 ∧ (p ≤ n → (znr f n k p v).1 ≤ n) ∧ (zdg (zch f n p) → 0 < k → p + 1 ≤ (znr f n k p v).1)
  | 0, p, v => ⟨Int.le_refl _, fun h => h, fun _ h => absurd h (Nat.lt_irrefl 0)⟩
  | k + 1, p, v => by
    by_cases hd : zdg (zch f n p)
    · have e := znr_go (v := v) rfl hd rfl rfl (k2 := k)
      have ih := znr_p (f := f) (n := n) k (p + 1) (10 * v + zch f n p - 48)
      have hl := zdg_lt hd
      rw [e]
      exact ⟨by omega, fun _ => ih.2.1 (by omega), fun _ _ => ih.1⟩
    · rw [znr_no hd]
      exact ⟨Int.le_refl _, fun h => h, fun q => absurd q hd⟩
theorem znr_v {f : Int → Int} {n : Int} : ∀ (k : Nat) (p v m : Int), 0 ≤ v → v + 1 ≤ m → 0 ≤ (znr f n k p v).2 ∧ (znr f n k p v).2 + 1 ≤ m * (10 : Int) ^ k
  | 0, p, v, m, h0, h1 => by
    rw [Int.pow_zero, Int.mul_one]
    exact ⟨h0, h1⟩
  | k + 1, p, v, m, h0, h1 => by
    have h10 : (0 : Int) < (10 : Int) ^ (k + 1) := Int.pow_pos (by decide)
    by_cases hd : zdg (zch f n p)
    · rw [znr_go (v := v) rfl hd rfl rfl (k2 := k), Int.pow_succ, Int.mul_comm ((10 : Int) ^ k) 10, ← Int.mul_assoc]
      unfold zdg at hd
      exact znr_v k _ _ _ (by omega) (by omega)
    · rw [znr_no hd]
      refine ⟨h0, Int.le_trans h1 ?_⟩
      have h2 : m * 1 ≤ m * (10 : Int) ^ (k + 1) := Int.mul_le_mul_of_nonneg_left (by omega) (by omega)
      omega
theorem znr_5 (f : Int → Int) (n p : Int) : 0 ≤ (znr f n 5 p 0).2 ∧ (znr f n 5 p 0).2 ≤ 99999 := by
  have h := znr_v (f := f) (n := n) 5 p 0 1 (by decide) (by decide)
  rw [show (1 : Int) * (10 : Int) ^ 5 = 100000 from by decide] at h
  omega
/-! ===== sums ===== -/
def zop : List Int → Int
  | [] => 0
  | v :: r => zop r + (if 14680064 ≤ v then 1 else 0)
def znp : List Int → Int
  | [] => 0
  | v :: r => znp r + (if v < 7340032 then 1 else 0)
def ztp : List Int → Int
  | [] => -1
  | v :: _ => v
/-- what may wait in a sum: [ , + or - over none of these, * / % over none of these three -/
def zs2 : List Int → Prop
  | [] => True
  | v :: r => (v = 14680064 ∨ ((v = 2097152 ∨ v = 3145728) ∧ (ztp r < 0 ∨ 7340032 ≤ ztp r)) ∨ ((v = 4194304 ∨ v = 5242880 ∨ v = 6291456) ∧ (ztp r < 4194304 ∨ 7340032 ≤ ztp r))) ∧ zs2 r
theorem zop_n : ∀ s : List Int, 0 ≤ zop s
  | [] => Int.le_refl _
  | v :: r => by
    have := zop_n r
    unfold zop
    split <;> omega
theorem znp_n : ∀ s : List Int, 0 ≤ znp s
  | [] => Int.le_refl _
  | v :: r => by
    have := znp_n r
    unfold znp
    split <;> omega
theorem zop_y {v : Int} {r : List Int} (h : 14680064 ≤ v) : zop (v :: r) = zop r + 1 := by
  show zop r + (if 14680064 ≤ v then 1 else 0) = zop r + 1
  rw [if_pos h]
theorem zop_z {v : Int} {r : List Int} (h : v < 14680064) : zop (v :: r) = zop r := by
  show zop r + (if 14680064 ≤ v then 1 else 0) = zop r
  rw [if_neg (by omega)]; omega
theorem znp_y {v : Int} {r : List Int} (h : v < 7340032) : znp (v :: r) = znp r + 1 := by
  show znp r + (if v < 7340032 then 1 else 0) = znp r + 1
  rw [if_pos h]
theorem znp_z {v : Int} {r : List Int} (h : 7340032 ≤ v) : znp (v :: r) = znp r := by
  show znp r + (if v < 7340032 then 1 else 0) = znp r
  rw [if_neg (by omega)]; omega
theorem zs2_n : ∀ {s : List Int}, zs2 s → (ztp s < 0 ∨ 7340032 ≤ ztp s → znp s ≤ 2 * zop s) ∧ (ztp s < 4194304 ∨ 7340032 ≤ ztp s → znp s ≤ 2 * zop s + 1) ∧ znp s ≤ 2 * zop s + 2
  | [], _ => ⟨fun _ => Int.le_refl _, fun _ => by decide, by decide⟩
  | v :: r, h => by
    obtain ⟨hv, hr⟩ := h
    have ih := zs2_n hr
    have ht : ztp (v :: r) = v := rfl
    rw [ht]
    rcases hv with hv | ⟨hv, ht2⟩ | ⟨hv, ht2⟩
    · rw [zop_y (by omega), znp_z (by omega)]
      omega
    · rw [zop_z (by omega), znp_y (by omega)]
      have := ih.1 ht2
      omega
    · rw [zop_z (by omega), znp_y (by omega)]
      have := ih.2.1 ht2
      omega
/-- the reading of a sum: m tells whether a factor comes next; c numbers of the code stand in C, st waits -/
def zeg (f : Int → Int) (n q : Int) : Nat → Bool → Int → Int → (Int → Int) → List Int → Int × Int × Int × (Int → Int)
  | 0, _, p, c, C, _ => (0, p, c, C)
  | k + 1, true, p, c, C, st =>
    if zch f n p = 91 then (if 6 ≤ q + zop st then (-5000 - p, p, c, C) else zeg f n q k true (p + 1) c C (14680064 :: st)) else
    if 48 ≤ zch f n p ∧ zch f n p ≤ 57 then (if 48 ≤ zch f n (znr f n 5 p 0).1 ∧ zch f n (znr f n 5 p 0).1 ≤ 57 then (-2000 - (znr f n 5 p 0).1, p, c, C) else zeg f n q k false (znr f n 5 p 0).1 (c + 1) (xud C c (znr f n 5 p 0).2) st) else
    if zlt (zch f n p) = -1 then (-1000 - p, p, c, C) else zeg f n q k false (p + 1) (c + 1) (xud C c (1048576 + zlt (zch f n p))) st
  | k + 1, false, p, c, C, [] => if 2 ≤ zsg (zch f n p) then zeg f n q k true (p + 1) c C [1048576 * zsg (zch f n p)] else (0, p, c, C)
  | k + 1, false, p, c, C, v :: r =>
    if 4194304 ≤ v ∧ v < 7340032 then zeg f n q k false p (c + 1) (xud C c v) r else
    if 4 ≤ zsg (zch f n p) then zeg f n q k true (p + 1) c C (1048576 * zsg (zch f n p) :: v :: r) else
    if v < 4194304 then zeg f n q k false p (c + 1) (xud C c v) r else
    if 2 ≤ zsg (zch f n p) then zeg f n q k true (p + 1) c C (1048576 * zsg (zch f n p) :: v :: r) else
    if zch f n p = 93 then zeg f n q k false (p + 1) c C r else (-1000 - p, p, c, C)
def zE0 (f : Int → Int) (n q p c : Int) (C : Int → Int) : Int × Int × Int × (Int → Int) := zeg f n q (2 * n + 2).toNat true p c C []
def zEI (n W K p c : Int) (st : List Int) : Prop := 0 ≤ c ∧ c + K + znp st ≤ p ∧ 0 ≤ W ∧ 0 ≤ K ∧ W + (st.length : Int) ≤ p ∧ p ≤ n ∧ n ≤ 240 ∧ zs2 st
def zEX (f : Int → Int) (n q W K b0 : Int) (B0 : Int → Int) (Z : Int × Int × Int × (Int → Int)) (m : Bool) (p c : Int) (C : Int → Int) (st : List Int) : Prop := (b0 ≤ c ∧ ∀ k, k < b0 → C k = B0 k) ∧ (∃ k : Nat, 2 * (n - p) + (st.length : Int) + 1 ≤ (k : Int) ∧ Z = zeg f n q k m p c C st) ∧ zEI n W K p c st
section EX
variable {f : Int → Int} {n q W K b0 p c p1 p2 c2 v : Int} {B0 C C2 : Int → Int} {Z : Int × Int × Int × (Int → Int)} {m : Bool} {st r : List Int}
theorem zEX.new (h : 0 ≤ c ∧ c + K ≤ p ∧ 0 ≤ W ∧ 0 ≤ K ∧ W ≤ p ∧ p ≤ n ∧ n ≤ 240) : zEX f n q W K c C (zE0 f n q p c C) true p c C [] :=
  ⟨⟨Int.le_refl _, fun _ _ => rfl⟩, ⟨(2 * n + 2).toNat, by show 2 * (n - p) + 0 + 1 ≤ _; omega, rfl⟩, by
    refine ⟨h.1, ?_, h.2.2.1, h.2.2.2.1, ?_, h.2.2.2.2.2.1, h.2.2.2.2.2.2, trivial⟩
    · show c + K + 0 ≤ p
      omega
    · show W + 0 ≤ p
      omega⟩
theorem zEX.pos (h : zEX f n q W K b0 B0 Z m p c C st) : ∃ k : Nat, 2 * (n - p) + (st.length : Int) ≤ (k : Int) ∧ Z = zeg f n q (k + 1) m p c C st := by
  obtain ⟨ho, ⟨k, hk, e⟩, hi⟩ := h
  have hp := hi.2.2.2.2.2.1
  cases k with
  | zero => omega
  | succ k => exact ⟨k, by omega, e⟩
theorem zEX.b (h : zEX f n q W K b0 B0 Z m p c C st) : 0 ≤ c ∧ c + K + znp st ≤ p ∧ 0 ≤ znp st ∧ 0 ≤ W ∧ 0 ≤ K ∧ W + (st.length : Int) ≤ p ∧ p ≤ n ∧ n ≤ 240 :=
  ⟨h.2.2.1, h.2.2.2.1, znp_n st, h.2.2.2.2.1, h.2.2.2.2.2.1, h.2.2.2.2.2.2.1, h.2.2.2.2.2.2.2.1, h.2.2.2.2.2.2.2.2.1⟩
theorem zEX.sh (h : zEX f n q W K b0 B0 Z m p c C st) : zs2 st := h.2.2.2.2.2.2.2.2.2
theorem zEX.od (h : zEX f n q W K b0 B0 Z m p c C st) (x : Int) : b0 ≤ c + 1 ∧ ∀ k, k < b0 → xud C c x k = B0 k := ⟨by have := h.1.1; omega, fun k hk => by rw [xud_o C x (by have := h.1.1; omega)]; exact h.1.2 k hk⟩
theorem zEX.five (h : zEX f n q W K b0 B0 Z true p c C st) (hc : zch f n p = 91) (hq : 6 ≤ q + zop st) : Z = (-5000 - p, p, c, C) := by
  obtain ⟨k, hk, e⟩ := h.pos
  exact e.trans ((if_pos hc).trans (if_pos hq))
theorem zEX.open_ (h : zEX f n q W K b0 B0 Z true p c C st) (hc : zch f n p = 91) (hq : q + zop st < 6) (h2 : p2 = p + 1) (hv : v = 14680064) : zEX f n q W K b0 B0 Z true p2 c C (v :: st) := by
  obtain ⟨k, hk, e⟩ := h.pos
  have b := h.b
  have hl := zch_lt (f := f) (n := n) (p := p) (by omega)
  subst h2; subst hv
  have hn : znp (14680064 :: st) = znp st := znp_z (by decide)
  refine ⟨h.1, ⟨k, ?_, e.trans ((if_pos hc).trans (if_neg (by omega)))⟩, b.1, by omega, b.2.2.2.1, b.2.2.2.2.1, ?_, by omega, b.2.2.2.2.2.2.2, Or.inl rfl, h.sh⟩
  · rw [List.length_cons]; omega
  · rw [List.length_cons]; omega
theorem zEX.two (h : zEX f n q W K b0 B0 Z true p c C st) (hd : zdg (zch f n p)) (h1 : p1 = (znr f n 5 p 0).1) (h5 : zdg (zch f n p1)) : Z = (-2000 - p1, p, c, C) := by
  obtain ⟨k, hk, e⟩ := h.pos
  subst h1
  have hd2 := hd
  unfold zdg at hd2
  exact e.trans ((if_neg (by omega)).trans ((if_pos hd).trans (if_pos h5)))
theorem zEX.num (h : zEX f n q W K b0 B0 Z true p c C st) (hd : zdg (zch f n p)) (h1 : p1 = (znr f n 5 p 0).1) (h5 : ¬ zdg (zch f n p1)) (hc : c2 = c + 1) (hC : C2 = xud C c (znr f n 5 p 0).2) : zEX f n q W K b0 B0 Z false p1 c2 C2 st := by
  obtain ⟨k, hk, e⟩ := h.pos
  have b := h.b
  have z := znr_p (f := f) (n := n) 5 p 0
  have z2 := z.2.1 (by omega)
  have z3 := z.2.2 hd (by decide)
  subst h1; subst hc; subst hC
  have hd2 := hd
  unfold zdg at hd2
  exact ⟨h.od _, ⟨k, by omega, e.trans ((if_neg (by omega)).trans ((if_pos hd).trans (if_neg h5)))⟩, by omega, by omega, b.2.2.2.1, b.2.2.2.2.1, by omega, by omega, b.2.2.2.2.2.2.2, h.sh⟩
theorem zEX.one (h : zEX f n q W K b0 B0 Z true p c C st) (hc : zch f n p ≠ 91) (hd : ¬ zdg (zch f n p)) (hl : zlt (zch f n p) = -1) : Z = (-1000 - p, p, c, C) := by
  obtain ⟨k, hk, e⟩ := h.pos
  exact e.trans ((if_neg hc).trans ((if_neg hd).trans (if_pos hl)))
theorem zEX.let_ (h : zEX f n q W K b0 B0 Z true p c C st) (hl : zlt (zch f n p) ≠ -1) (h2 : p2 = p + 1) (hc : c2 = c + 1) (hC : C2 = xud C c (1048576 + zlt (zch f n p))) : zEX f n q W K b0 B0 Z false p2 c2 C2 st := by
  obtain ⟨k, hk, e⟩ := h.pos
  have b := h.b
  have z := zlt_cs (zch f n p)
  have hlt := zch_lt (f := f) (n := n) (p := p) (by omega)
  subst h2; subst hc; subst hC
  exact ⟨h.od _, ⟨k, by omega, e.trans ((if_neg (by omega)).trans ((if_neg (by omega)).trans (if_neg hl)))⟩, by omega, by omega, b.2.2.2.1, b.2.2.2.2.1, by omega, by omega, b.2.2.2.2.2.2.2, h.sh⟩
theorem zEX.mul (h : zEX f n q W K b0 B0 Z false p c C (v :: r)) (hv : 4194304 ≤ v ∧ v < 7340032) (hc : c2 = c + 1) (hC : C2 = xud C c v) : zEX f n q W K b0 B0 Z false p c2 C2 r := by
  obtain ⟨k, hk, e⟩ := h.pos
  have b := h.b
  subst hc; subst hC
  have hn : znp (v :: r) = znp r + 1 := znp_y (by omega)
  rw [List.length_cons] at hk b
  exact ⟨h.od _, ⟨k, by omega, e.trans (if_pos hv)⟩, by omega, by omega, b.2.2.2.1, b.2.2.2.2.1, by omega, by omega, b.2.2.2.2.2.2.2, h.sh.2⟩
theorem zEX.add (h : zEX f n q W K b0 B0 Z false p c C (v :: r)) (hv : v < 4194304) (hs : zsg (zch f n p) < 4) (hc : c2 = c + 1) (hC : C2 = xud C c v) : zEX f n q W K b0 B0 Z false p c2 C2 r := by
  obtain ⟨k, hk, e⟩ := h.pos
  have b := h.b
  subst hc; subst hC
  have hn : znp (v :: r) = znp r + 1 := znp_y (by omega)
  rw [List.length_cons] at hk b
  exact ⟨h.od _, ⟨k, by omega, e.trans ((if_neg (by omega)).trans ((if_neg (by omega)).trans (if_pos hv)))⟩, by omega, by omega, b.2.2.2.1, b.2.2.2.2.1, by omega, by omega, b.2.2.2.2.2.2.2, h.sh.2⟩
theorem zEX.sgm (h : zEX f n q W K b0 B0 Z false p c C st) (ht : ztp st < 4194304 ∨ 7340032 ≤ ztp st) (hs : 4 ≤ zsg (zch f n p)) (h2 : p2 = p + 1) (hv : v = 1048576 * zsg (zch f n p)) : zEX f n q W K b0 B0 Z true p2 c C (v :: st) := by
  obtain ⟨k, hk, e⟩ := h.pos
  have b := h.b
  have z := zsg_cs (zch f n p)
  have hlt := zch_lt (f := f) (n := n) (p := p) (by omega)
  subst h2
  have hn : znp (v :: st) = znp st + 1 := znp_y (by omega)
  refine ⟨h.1, ⟨k, ?_, ?_⟩, b.1, by omega, b.2.2.2.1, b.2.2.2.2.1, ?_, by omega, b.2.2.2.2.2.2.2, Or.inr (Or.inr ⟨by omega, ht⟩), h.sh⟩
  · rw [List.length_cons]; omega
  · subst hv
    cases st with
    | nil => exact e.trans (if_pos (by omega))
    | cons v9 r9 =>
      have ht : v9 < 4194304 ∨ 7340032 ≤ v9 := ht
      exact e.trans ((if_neg (by omega)).trans (if_pos hs))
  · rw [List.length_cons]; omega
theorem zEX.sga (h : zEX f n q W K b0 B0 Z false p c C st) (ht : ztp st < 0 ∨ 7340032 ≤ ztp st) (hs : 2 ≤ zsg (zch f n p) ∧ zsg (zch f n p) < 4) (h2 : p2 = p + 1) (hv : v = 1048576 * zsg (zch f n p)) : zEX f n q W K b0 B0 Z true p2 c C (v :: st) := by
  obtain ⟨k, hk, e⟩ := h.pos
  have b := h.b
  have z := zsg_cs (zch f n p)
  have hlt := zch_lt (f := f) (n := n) (p := p) (by omega)
  subst h2
  have hn : znp (v :: st) = znp st + 1 := znp_y (by omega)
  have hz := h.sh
  refine ⟨h.1, ⟨k, ?_, ?_⟩, b.1, by omega, b.2.2.2.1, b.2.2.2.2.1, ?_, by omega, b.2.2.2.2.2.2.2, Or.inr (Or.inl ⟨by omega, ht⟩), hz⟩
  · rw [List.length_cons]; omega
  · subst hv
    cases st with
    | nil => exact e.trans (if_pos hs.1)
    | cons v9 r9 =>
      have ht : v9 < 0 ∨ 7340032 ≤ v9 := ht
      have h9 := hz.1
      exact e.trans ((if_neg (by omega)).trans ((if_neg (by omega)).trans ((if_neg (by omega)).trans (if_pos hs.1))))
  · rw [List.length_cons]; omega
theorem zEX.shut (h : zEX f n q W K b0 B0 Z false p c C (v :: r)) (hv : 7340032 ≤ v) (hc : zch f n p = 93) (h2 : p2 = p + 1) : zEX f n q W K b0 B0 Z false p2 c C r := by
  obtain ⟨k, hk, e⟩ := h.pos
  have b := h.b
  have z := zsg_cs (zch f n p)
  have hlt := zch_lt (f := f) (n := n) (p := p) (by omega)
  subst h2
  have hn : znp (v :: r) = znp r := znp_z hv
  rw [List.length_cons] at hk b
  exact ⟨h.1, ⟨k, by omega, e.trans ((if_neg (by omega)).trans ((if_neg (by omega)).trans ((if_neg (by omega)).trans ((if_neg (by omega)).trans (if_pos hc)))))⟩, b.1, by omega, b.2.2.2.1, b.2.2.2.2.1, by omega, by omega, b.2.2.2.2.2.2.2, h.sh.2⟩
theorem zEX.fin (h : zEX f n q W K b0 B0 Z false p c C []) (hs : zsg (zch f n p) < 2) : Z = (0, p, c, C) := by
  obtain ⟨k, hk, e⟩ := h.pos
  exact e.trans (if_neg (by omega))
end EX
theorem zEX.bad {f : Int → Int} {n q W K b0 p : Int} {B0 : Int → Int} {Z : Int × Int × Int × (Int → Int)} : ∀ (st : List Int) (c : Int) (C : Int → Int), zEX f n q W K b0 B0 Z false p c C st → 0 < zop st → zsg (zch f n p) < 2 → zch f n p ≠ 93 → Z.1 = -1000 - p
  | [], _, _, _, h, _, _ => absurd h (by decide)
  | v :: r, c, C, h, ho, hs, hc => by
    by_cases h1 : 4194304 ≤ v ∧ v < 7340032
    · rw [zop_z (by omega)] at ho
      exact zEX.bad r _ _ (h.mul h1 rfl rfl) ho hs hc
    by_cases h2 : v < 4194304
    · rw [zop_z (by omega)] at ho
      exact zEX.bad r _ _ (h.add h2 (by omega) rfl rfl) ho hs hc
    obtain ⟨k, hk, e⟩ := h.pos
    rw [e]
    have e2 : zeg f n q (k + 1) false p c C (v :: r) = (-1000 - p, p, c, C) := (if_neg h1).trans ((if_neg (by omega)).trans ((if_neg h2).trans ((if_neg (by omega)).trans (if_neg hc))))
    rw [e2]


/-! ===== conditions ===== -/
def znN : List Int → Int
  | [] => 0
  | v :: r => znN r + (if v < 11534336 then 1 else 0)
def zqn : List Int → Int
  | [] => 0
  | v :: r => zqn r + (if v < 11534336 ∨ 13631488 ≤ v then 1 else 0)
/-- what may wait in a condition: !, (, and jumps of the code from a to c -/
def zsc (a c : Int) (C : Int → Int) : List Int → Prop
  | [] => True
  | v :: r => (v = 10485760 ∨ v = 13631488 ∨ (11534336 ≤ v ∧ v < 13631488 ∧ a ≤ v % 1048576 ∧ v % 1048576 < c ∧ C (v % 1048576) / 1048576 = v / 1048576 ∧ (v < 12582912 → 12582912 ≤ ztp r) ∧ (12582912 ≤ v → 13631488 ≤ ztp r))) ∧ zsc a c C r

