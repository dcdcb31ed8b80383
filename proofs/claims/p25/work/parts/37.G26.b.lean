set_option maxHeartbeats 4000000 in
set_option maxRecDepth 100000 in
theorem c_X11_copiesMA (l : Launch) (D : va_G) (g : xG) (T : Nat × Nat × Nat) (h0 : Nat) (s0 : xS) (hσ : xRR s0) (p0 : IMn s0) (p1 : IMk s0) (p2 : IMo s0) : Met l yX11_copies (xws yX11_copies cX11_copies 3 none) { frames := 0, cells := 0, slots := 0, locals := 0 } (xP [.ref (h0 + 269), .ref (h0 + 270)] D g T h0 s0) (xQv D g h0 (fun τ => xFr (fun k => k = 270) s0 τ ∧ (((IMn τ) ∧ (IMk τ) ∧ (IMo τ) ∧ True) ∧ (∀ q : Int, 0 ≤ q → q < 39 → τ 270 q = s0 269 q)))) 0 0 (xA h0) := by
  refine x_met hσ (by decide) (Nat.le_of_ble_eq_true rfl) ?_
  intro p e s m args below meth c hx hb hr hml hown hT hlk hnm hE hW ls hl
  have hl : lv_has ls 3 [(0, .ref (h0 + 269)), (1, .ref (h0 + 270))] := hl
  obtain ⟨Q, eQ⟩ : ∃ Q, Q = MQ below (xQv D g h0 (fun τ => xFr (fun k => k = 270) s0 τ ∧ (((IMn τ) ∧ (IMk τ) ∧ (IMo τ) ∧ True) ∧ (∀ q : Int, 0 ≤ q → q < 39 → τ 270 q = s0 269 q)))) args s 0 0 (xA h0) := ⟨_, rfl⟩
  rw [← eQ]
  generalize hHe : ([] : List Loc) = locs at hW ⊢
  obtain ⟨H, eH⟩ : ∃ H, H = s.heap := ⟨_, rfl⟩
  rw [← eH] at hW ⊢
  have hF : xFr (fun k => k = 270) s0 s0 := xFr.rf
  have k268_8 : s0 268 8 = s0 268 8 := rfl
  have k268_58 : s0 268 58 = s0 268 58 := rfl
  have k269_37 : s0 269 37 = s0 269 37 := rfl
  refine x_iconst hx hb dX11_copies_0 ?_
  refine lv_istore_n (lv' := [(2, .int (xJ 0)), (0, .ref (h0 + 269)), (1, .ref (h0 + 270))]) hx hb dX11_copies_1 rfl hl (by decide) rfl (fun ls hl => ?_)
  have L2 : ∀ (fu : Nat) (i2_2 : Int) (s_2 : xS) (H : Heap) (locs : List Loc) (ls : Array Slot), (xR i2_2) → (xFr (fun k => k = 270) s0 s_2) → (IMn s_2) → (IMk s_2) → (IMo s_2) → (s_2 268 8 = s0 268 8) → (s_2 268 58 = s0 268 58) → (s_2 269 37 = s0 269 37) → (0 ≤ i2_2) → (i2_2 ≤ 39) → (∀ q : Int, 0 ≤ q → q < i2_2 → s_2 270 q = s0 269 q) → (39 + 1 - i2_2).toNat < fu → xW D g h0 s H locs s_2 → lv_has ls 3 [(0, .ref (h0 + 269)), (1, .ref (h0 + 270)), (2, .int (xJ i2_2))] → W p l e { frames := 0, cells := 0, slots := 0, locals := 0 } s m args below meth c H locs 0 0 Q (F0 m 2 ls []) := by
    intro fu
    induction fu with
    | zero => intro i2_2 s_2 H locs ls ri2_2 hF_2 q2_0 q2_1 q2_2 q2_3 q2_4 q2_5 v2_0 v2_1 v2_2 hm; exact absurd hm (Nat.not_lt_zero _)
    | succ fu ih2 =>
      intro i2_2 s_2 H locs ls ri2_2 hF_2 q2_0 q2_1 q2_2 q2_3 q2_4 q2_5 v2_0 v2_1 v2_2 hm hW hl
      refine x_iload_n hx hb hl 2 rfl dX11_copies_2 rfl ?_
      refine x_bipush hx hb dX11_copies_3 (by decide) ?_
      refine x_icmp_ge (tgt := 20) hx hb ri2_2 (by decide) dX11_copies_5 (by decide) (fun c1 => ?_) (fun c1 => ?_)
      · skip
        rw [eQ]
        exact x_vret hx hb hr hlk hW ⟨hF_2, ⟨q2_0, q2_1, q2_2, trivial⟩, fun q q1 q2 => v2_2 q q1 (by omega)⟩ dX11_copies_20
      refine x_aload_n hx hb hl 1 rfl dX11_copies_8 rfl ?_
      refine x_iload_n hx hb hl 2 rfl dX11_copies_9 rfl ?_
      refine x_aload_n hx hb hl 0 rfl dX11_copies_10 rfl ?_
      refine x_iload_n hx hb hl 2 rfl dX11_copies_11 rfl ?_
      refine x_iald hx hb hE hW (Or.inl (by decide)) (sa_269 h0 g _) (by omega) (by decide) dX11_copies_12 ?_
      refine x_rd hW (fun x2 ex2 rx2 => ?_)
      have bx2 := okN_v (IMn.n1 q2_0) i2_2
      rw [← ex2] at bx2
      have R12 := ex2
      refine x_iast hx hb hE hW (by decide) (fun σ => sa_270 h0 g σ) (by omega) (by decide) rx2 dX11_copies_13 (fun H locs s3 es3 hW => ?_)
      have q4 : IMn s3 := by rw [es3]; exact IMn_N270 q2_0 (by omega)
      have q5 : IMk s3 := by rw [es3]; exact IMk_o (by unfold suIMk; omega) q2_1
      have q6 : IMo s3 := by rw [es3]; exact IMo_o (by unfold suIMo; omega) q2_2
      have q7 : s3 268 8 = s0 268 8 := (show s3 268 8 = s_2 268 8 from by rw [es3, xU_k _ _ _ (by omega)]).trans q2_3
      have q8 : s3 268 58 = s0 268 58 := (show s3 268 58 = s_2 268 58 from by rw [es3, xU_k _ _ _ (by omega)]).trans q2_4
      have q9 : s3 269 37 = s0 269 37 := (show s3 269 37 = s_2 269 37 from by rw [es3, xU_k _ _ _ (by omega)]).trans q2_5
      have hF10 := hF_2.put es3 (by omega)
      have E13 := es3
      refine x_iinc (lv' := [(2, .int (xJ (i2_2 + 1))), (0, .ref (h0 + 269)), (1, .ref (h0 + 270))]) hx hb hl 2 rfl dX11_copies_14 (by decide) rfl (fun ls hl => ?_)
      refine lv_goto (tgt := 2) hx hb dX11_copies_17 (by decide) ?_
      exact ih2 (i2_2 + 1) s3 H locs ls (by omega) hF10 q4 q5 q6 q7 q8 q9 (by omega) (by omega) (fun q q1 q2 => (Classical.em (q < i2_2)).elim (fun h => by rw [E13, xU_j _ _ (by omega)]; exact v2_2 q q1 h) (fun h => by rw [show q = i2_2 from by omega, E13, xU_s, R12, hF_2 269 (by omega)])) (by omega) hW (lv_sub hl [1, 2, 0] rfl)
  exact L2 ((39 + 1 - 0 : Int).toNat + 1) 0 s0 H locs ls (by decide) hF p0 p1 p2 k268_8 k268_58 k269_37 (by omega) (by omega) (fun q q1 q2 => absurd q2 (by omega)) (Nat.lt_succ_self _) hW (lv_sub hl [1, 2, 0] rfl)
set_option maxHeartbeats 4000000 in
set_option maxRecDepth 100000 in
theorem c_X11_copiesMB (l : Launch) (D : va_G) (g : xG) (T : Nat × Nat × Nat) (h0 : Nat) (s0 : xS) (hσ : xRR s0) (p0 : IMn s0) (p1 : IMk s0) (p2 : IMo s0) : Met l yX11_copies (xws yX11_copies cX11_copies 3 none) { frames := 0, cells := 0, slots := 0, locals := 0 } (xP [.ref (h0 + 270), .ref (h0 + 269)] D g T h0 s0) (xQv D g h0 (fun τ => xFr (fun k => k = 269) s0 τ ∧ (((IMn τ) ∧ (IMk τ) ∧ (IMo τ) ∧ True) ∧ (∀ q : Int, 0 ≤ q → q < 39 → τ 269 q = s0 270 q)))) 0 0 (xA h0) := by
  refine x_met hσ (by decide) (Nat.le_of_ble_eq_true rfl) ?_
  intro p e s m args below meth c hx hb hr hml hown hT hlk hnm hE hW ls hl
  have hl : lv_has ls 3 [(0, .ref (h0 + 270)), (1, .ref (h0 + 269))] := hl
  obtain ⟨Q, eQ⟩ : ∃ Q, Q = MQ below (xQv D g h0 (fun τ => xFr (fun k => k = 269) s0 τ ∧ (((IMn τ) ∧ (IMk τ) ∧ (IMo τ) ∧ True) ∧ (∀ q : Int, 0 ≤ q → q < 39 → τ 269 q = s0 270 q)))) args s 0 0 (xA h0) := ⟨_, rfl⟩
  rw [← eQ]
  generalize hHe : ([] : List Loc) = locs at hW ⊢
  obtain ⟨H, eH⟩ : ∃ H, H = s.heap := ⟨_, rfl⟩
  rw [← eH] at hW ⊢
  have hF : xFr (fun k => k = 269) s0 s0 := xFr.rf
  have k268_8 : s0 268 8 = s0 268 8 := rfl
  have k268_58 : s0 268 58 = s0 268 58 := rfl
  refine x_iconst hx hb dX11_copies_0 ?_
  refine lv_istore_n (lv' := [(2, .int (xJ 0)), (0, .ref (h0 + 270)), (1, .ref (h0 + 269))]) hx hb dX11_copies_1 rfl hl (by decide) rfl (fun ls hl => ?_)
  have L2 : ∀ (fu : Nat) (i2_2 : Int) (s_2 : xS) (H : Heap) (locs : List Loc) (ls : Array Slot), (xR i2_2) → (xFr (fun k => k = 269) s0 s_2) → (IMn s_2) → (IMk s_2) → (IMo s_2) → (s_2 268 8 = s0 268 8) → (s_2 268 58 = s0 268 58) → (0 ≤ i2_2) → (i2_2 ≤ 39) → (∀ q : Int, 0 ≤ q → q < i2_2 → s_2 269 q = s0 270 q) → (39 + 1 - i2_2).toNat < fu → xW D g h0 s H locs s_2 → lv_has ls 3 [(0, .ref (h0 + 270)), (1, .ref (h0 + 269)), (2, .int (xJ i2_2))] → W p l e { frames := 0, cells := 0, slots := 0, locals := 0 } s m args below meth c H locs 0 0 Q (F0 m 2 ls []) := by
    intro fu
    induction fu with
    | zero => intro i2_2 s_2 H locs ls ri2_2 hF_2 q2_0 q2_1 q2_2 q2_3 q2_4 v2_0 v2_1 v2_2 hm; exact absurd hm (Nat.not_lt_zero _)
    | succ fu ih2 =>
      intro i2_2 s_2 H locs ls ri2_2 hF_2 q2_0 q2_1 q2_2 q2_3 q2_4 v2_0 v2_1 v2_2 hm hW hl
      refine x_iload_n hx hb hl 2 rfl dX11_copies_2 rfl ?_
      refine x_bipush hx hb dX11_copies_3 (by decide) ?_
      refine x_icmp_ge (tgt := 20) hx hb ri2_2 (by decide) dX11_copies_5 (by decide) (fun c1 => ?_) (fun c1 => ?_)
      · skip
        rw [eQ]
        exact x_vret hx hb hr hlk hW ⟨hF_2, ⟨q2_0, q2_1, q2_2, trivial⟩, fun q q1 q2 => v2_2 q q1 (by omega)⟩ dX11_copies_20
      refine x_aload_n hx hb hl 1 rfl dX11_copies_8 rfl ?_
      refine x_iload_n hx hb hl 2 rfl dX11_copies_9 rfl ?_
      refine x_aload_n hx hb hl 0 rfl dX11_copies_10 rfl ?_
      refine x_iload_n hx hb hl 2 rfl dX11_copies_11 rfl ?_
      refine x_iald hx hb hE hW (Or.inl (by decide)) (sa_270 h0 g _) (by omega) (by decide) dX11_copies_12 ?_
      refine x_rd hW (fun x2 ex2 rx2 => ?_)
      have bx2 := okN_v (IMn.n2 q2_0) i2_2
      rw [← ex2] at bx2
      have R12 := ex2
      refine x_iast hx hb hE hW (by decide) (fun σ => sa_269 h0 g σ) (by omega) (by decide) rx2 dX11_copies_13 (fun H locs s3 es3 hW => ?_)
      have q4 : IMn s3 := by rw [es3]; exact IMn_N269 q2_0 (by omega)
      have q5 : IMk s3 := by rw [es3]; exact IMk_o (by unfold suIMk; omega) q2_1
      have q6 : IMo s3 := by rw [es3]; exact IMo_o (by unfold suIMo; omega) q2_2
      have q7 : s3 268 8 = s0 268 8 := (show s3 268 8 = s_2 268 8 from by rw [es3, xU_k _ _ _ (by omega)]).trans q2_3
      have q8 : s3 268 58 = s0 268 58 := (show s3 268 58 = s_2 268 58 from by rw [es3, xU_k _ _ _ (by omega)]).trans q2_4
      have hF9 := hF_2.put es3 (by omega)
      have E13 := es3
      refine x_iinc (lv' := [(2, .int (xJ (i2_2 + 1))), (0, .ref (h0 + 270)), (1, .ref (h0 + 269))]) hx hb hl 2 rfl dX11_copies_14 (by decide) rfl (fun ls hl => ?_)
      refine lv_goto (tgt := 2) hx hb dX11_copies_17 (by decide) ?_
      exact ih2 (i2_2 + 1) s3 H locs ls (by omega) hF9 q4 q5 q6 q7 q8 (by omega) (by omega) (fun q q1 q2 => (Classical.em (q < i2_2)).elim (fun h => by rw [E13, xU_j _ _ (by omega)]; exact v2_2 q q1 h) (fun h => by rw [show q = i2_2 from by omega, E13, xU_s, R12, hF_2 270 (by omega)])) (by omega) hW (lv_sub hl [1, 2, 0] rfl)
  exact L2 ((39 + 1 - 0 : Int).toNat + 1) 0 s0 H locs ls (by decide) hF p0 p1 p2 k268_8 k268_58 (by omega) (by omega) (fun q q1 q2 => absurd q2 (by omega)) (Nat.lt_succ_self _) hW (lv_sub hl [1, 2, 0] rfl)
set_option maxHeartbeats 4000000 in
set_option maxRecDepth 100000 in
theorem c_X11_copiesMK (l : Launch) (D : va_G) (g : xG) (T : Nat × Nat × Nat) (h0 : Nat) (s0 : xS) (hσ : xRR s0) (p0 : IMn s0) (p1 : IMk s0) (p2 : IMo s0) : Met l yX11_copies (xws yX11_copies cX11_copies 3 none) { frames := 0, cells := 0, slots := 0, locals := 0 } (xP [.ref (h0 + 269), .ref (h0 + 271)] D g T h0 s0) (xQv D g h0 (fun τ => xFr (fun k => k = 271) s0 τ ∧ (((IMn τ) ∧ (IMk τ) ∧ (IMo τ) ∧ True) ∧ (∀ q : Int, 0 ≤ q → q < 39 → τ 271 q = s0 269 q)))) 0 0 (xA h0) := by
  refine x_met hσ (by decide) (Nat.le_of_ble_eq_true rfl) ?_
  intro p e s m args below meth c hx hb hr hml hown hT hlk hnm hE hW ls hl
  have hl : lv_has ls 3 [(0, .ref (h0 + 269)), (1, .ref (h0 + 271))] := hl
  obtain ⟨Q, eQ⟩ : ∃ Q, Q = MQ below (xQv D g h0 (fun τ => xFr (fun k => k = 271) s0 τ ∧ (((IMn τ) ∧ (IMk τ) ∧ (IMo τ) ∧ True) ∧ (∀ q : Int, 0 ≤ q → q < 39 → τ 271 q = s0 269 q)))) args s 0 0 (xA h0) := ⟨_, rfl⟩
  rw [← eQ]
  generalize hHe : ([] : List Loc) = locs at hW ⊢
  obtain ⟨H, eH⟩ : ∃ H, H = s.heap := ⟨_, rfl⟩
  rw [← eH] at hW ⊢
  have hF : xFr (fun k => k = 271) s0 s0 := xFr.rf
  have k268_8 : s0 268 8 = s0 268 8 := rfl
  have k268_58 : s0 268 58 = s0 268 58 := rfl
  have k269_37 : s0 269 37 = s0 269 37 := rfl
  refine x_iconst hx hb dX11_copies_0 ?_
  refine lv_istore_n (lv' := [(2, .int (xJ 0)), (0, .ref (h0 + 269)), (1, .ref (h0 + 271))]) hx hb dX11_copies_1 rfl hl (by decide) rfl (fun ls hl => ?_)
  have L2 : ∀ (fu : Nat) (i2_2 : Int) (s_2 : xS) (H : Heap) (locs : List Loc) (ls : Array Slot), (xR i2_2) → (xFr (fun k => k = 271) s0 s_2) → (IMn s_2) → (IMk s_2) → (IMo s_2) → (s_2 268 8 = s0 268 8) → (s_2 268 58 = s0 268 58) → (s_2 269 37 = s0 269 37) → (0 ≤ i2_2) → (i2_2 ≤ 39) → (∀ q : Int, 0 ≤ q → q < i2_2 → s_2 271 q = s0 269 q) → (39 + 1 - i2_2).toNat < fu → xW D g h0 s H locs s_2 → lv_has ls 3 [(0, .ref (h0 + 269)), (1, .ref (h0 + 271)), (2, .int (xJ i2_2))] → W p l e { frames := 0, cells := 0, slots := 0, locals := 0 } s m args below meth c H locs 0 0 Q (F0 m 2 ls []) := by
    intro fu
    induction fu with
    | zero => intro i2_2 s_2 H locs ls ri2_2 hF_2 q2_0 q2_1 q2_2 q2_3 q2_4 q2_5 v2_0 v2_1 v2_2 hm; exact absurd hm (Nat.not_lt_zero _)
    | succ fu ih2 =>
      intro i2_2 s_2 H locs ls ri2_2 hF_2 q2_0 q2_1 q2_2 q2_3 q2_4 q2_5 v2_0 v2_1 v2_2 hm hW hl
      refine x_iload_n hx hb hl 2 rfl dX11_copies_2 rfl ?_
      refine x_bipush hx hb dX11_copies_3 (by decide) ?_
      refine x_icmp_ge (tgt := 20) hx hb ri2_2 (by decide) dX11_copies_5 (by decide) (fun c1 => ?_) (fun c1 => ?_)
      · skip
        rw [eQ]
        exact x_vret hx hb hr hlk hW ⟨hF_2, ⟨q2_0, q2_1, q2_2, trivial⟩, fun q q1 q2 => v2_2 q q1 (by omega)⟩ dX11_copies_20
      refine x_aload_n hx hb hl 1 rfl dX11_copies_8 rfl ?_
      refine x_iload_n hx hb hl 2 rfl dX11_copies_9 rfl ?_
      refine x_aload_n hx hb hl 0 rfl dX11_copies_10 rfl ?_
      refine x_iload_n hx hb hl 2 rfl dX11_copies_11 rfl ?_
      refine x_iald hx hb hE hW (Or.inl (by decide)) (sa_269 h0 g _) (by omega) (by decide) dX11_copies_12 ?_
      refine x_rd hW (fun x2 ex2 rx2 => ?_)
      have bx2 := okN_v (IMn.n1 q2_0) i2_2
      rw [← ex2] at bx2
      have R12 := ex2
      refine x_iast hx hb hE hW (by decide) (fun σ => sa_271 h0 g σ) (by omega) (by decide) rx2 dX11_copies_13 (fun H locs s3 es3 hW => ?_)
      have q4 : IMn s3 := by rw [es3]; exact IMn_N271 q2_0 (by omega)
      have q5 : IMk s3 := by rw [es3]; exact IMk_o (by unfold suIMk; omega) q2_1
      have q6 : IMo s3 := by rw [es3]; exact IMo_o (by unfold suIMo; omega) q2_2
      have q7 : s3 268 8 = s0 268 8 := (show s3 268 8 = s_2 268 8 from by rw [es3, xU_k _ _ _ (by omega)]).trans q2_3
      have q8 : s3 268 58 = s0 268 58 := (show s3 268 58 = s_2 268 58 from by rw [es3, xU_k _ _ _ (by omega)]).trans q2_4
      have q9 : s3 269 37 = s0 269 37 := (show s3 269 37 = s_2 269 37 from by rw [es3, xU_k _ _ _ (by omega)]).trans q2_5
      have hF10 := hF_2.put es3 (by omega)
      have E13 := es3
      refine x_iinc (lv' := [(2, .int (xJ (i2_2 + 1))), (0, .ref (h0 + 269)), (1, .ref (h0 + 271))]) hx hb hl 2 rfl dX11_copies_14 (by decide) rfl (fun ls hl => ?_)
      refine lv_goto (tgt := 2) hx hb dX11_copies_17 (by decide) ?_
      exact ih2 (i2_2 + 1) s3 H locs ls (by omega) hF10 q4 q5 q6 q7 q8 q9 (by omega) (by omega) (fun q q1 q2 => (Classical.em (q < i2_2)).elim (fun h => by rw [E13, xU_j _ _ (by omega)]; exact v2_2 q q1 h) (fun h => by rw [show q = i2_2 from by omega, E13, xU_s, R12, hF_2 269 (by omega)])) (by omega) hW (lv_sub hl [1, 2, 0] rfl)
  exact L2 ((39 + 1 - 0 : Int).toNat + 1) 0 s0 H locs ls (by decide) hF p0 p1 p2 k268_8 k268_58 k269_37 (by omega) (by omega) (fun q q1 q2 => absurd q2 (by omega)) (Nat.lt_succ_self _) hW (lv_sub hl [1, 2, 0] rfl)
set_option maxHeartbeats 4000000 in
set_option maxRecDepth 100000 in
theorem c_X11_copiesMU (l : Launch) (D : va_G) (g : xG) (T : Nat × Nat × Nat) (h0 : Nat) (s0 : xS) (hσ : xRR s0) (p0 : IMn s0) (p1 : IMk s0) (p2 : IMo s0) : Met l yX11_copies (xws yX11_copies cX11_copies 3 none) { frames := 0, cells := 0, slots := 0, locals := 0 } (xP [.ref (h0 + 271), .ref (h0 + 269)] D g T h0 s0) (xQv D g h0 (fun τ => xFr (fun k => k = 269) s0 τ ∧ (((IMn τ) ∧ (IMk τ) ∧ (IMo τ) ∧ True) ∧ (∀ q : Int, 0 ≤ q → q < 39 → τ 269 q = s0 271 q)))) 0 0 (xA h0) := by
  refine x_met hσ (by decide) (Nat.le_of_ble_eq_true rfl) ?_
  intro p e s m args below meth c hx hb hr hml hown hT hlk hnm hE hW ls hl
  have hl : lv_has ls 3 [(0, .ref (h0 + 271)), (1, .ref (h0 + 269))] := hl
  obtain ⟨Q, eQ⟩ : ∃ Q, Q = MQ below (xQv D g h0 (fun τ => xFr (fun k => k = 269) s0 τ ∧ (((IMn τ) ∧ (IMk τ) ∧ (IMo τ) ∧ True) ∧ (∀ q : Int, 0 ≤ q → q < 39 → τ 269 q = s0 271 q)))) args s 0 0 (xA h0) := ⟨_, rfl⟩
  rw [← eQ]
  generalize hHe : ([] : List Loc) = locs at hW ⊢
  obtain ⟨H, eH⟩ : ∃ H, H = s.heap := ⟨_, rfl⟩
  rw [← eH] at hW ⊢
  have hF : xFr (fun k => k = 269) s0 s0 := xFr.rf
  have k268_8 : s0 268 8 = s0 268 8 := rfl
  have k268_58 : s0 268 58 = s0 268 58 := rfl
  refine x_iconst hx hb dX11_copies_0 ?_
  refine lv_istore_n (lv' := [(2, .int (xJ 0)), (0, .ref (h0 + 271)), (1, .ref (h0 + 269))]) hx hb dX11_copies_1 rfl hl (by decide) rfl (fun ls hl => ?_)
  have L2 : ∀ (fu : Nat) (i2_2 : Int) (s_2 : xS) (H : Heap) (locs : List Loc) (ls : Array Slot), (xR i2_2) → (xFr (fun k => k = 269) s0 s_2) → (IMn s_2) → (IMk s_2) → (IMo s_2) → (s_2 268 8 = s0 268 8) → (s_2 268 58 = s0 268 58) → (0 ≤ i2_2) → (i2_2 ≤ 39) → (∀ q : Int, 0 ≤ q → q < i2_2 → s_2 269 q = s0 271 q) → (39 + 1 - i2_2).toNat < fu → xW D g h0 s H locs s_2 → lv_has ls 3 [(0, .ref (h0 + 271)), (1, .ref (h0 + 269)), (2, .int (xJ i2_2))] → W p l e { frames := 0, cells := 0, slots := 0, locals := 0 } s m args below meth c H locs 0 0 Q (F0 m 2 ls []) := by
    intro fu
    induction fu with
    | zero => intro i2_2 s_2 H locs ls ri2_2 hF_2 q2_0 q2_1 q2_2 q2_3 q2_4 v2_0 v2_1 v2_2 hm; exact absurd hm (Nat.not_lt_zero _)
    | succ fu ih2 =>
      intro i2_2 s_2 H locs ls ri2_2 hF_2 q2_0 q2_1 q2_2 q2_3 q2_4 v2_0 v2_1 v2_2 hm hW hl
      refine x_iload_n hx hb hl 2 rfl dX11_copies_2 rfl ?_
      refine x_bipush hx hb dX11_copies_3 (by decide) ?_
      refine x_icmp_ge (tgt := 20) hx hb ri2_2 (by decide) dX11_copies_5 (by decide) (fun c1 => ?_) (fun c1 => ?_)
      · skip
        rw [eQ]
        exact x_vret hx hb hr hlk hW ⟨hF_2, ⟨q2_0, q2_1, q2_2, trivial⟩, fun q q1 q2 => v2_2 q q1 (by omega)⟩ dX11_copies_20
      refine x_aload_n hx hb hl 1 rfl dX11_copies_8 rfl ?_
      refine x_iload_n hx hb hl 2 rfl dX11_copies_9 rfl ?_
      refine x_aload_n hx hb hl 0 rfl dX11_copies_10 rfl ?_
      refine x_iload_n hx hb hl 2 rfl dX11_copies_11 rfl ?_
      refine x_iald hx hb hE hW (Or.inl (by decide)) (sa_271 h0 g _) (by omega) (by decide) dX11_copies_12 ?_
      refine x_rd hW (fun x2 ex2 rx2 => ?_)
      have bx2 := okN_v (IMn.n3 q2_0) i2_2
      rw [← ex2] at bx2
      have R12 := ex2
      refine x_iast hx hb hE hW (by decide) (fun σ => sa_269 h0 g σ) (by omega) (by decide) rx2 dX11_copies_13 (fun H locs s3 es3 hW => ?_)
      have q4 : IMn s3 := by rw [es3]; exact IMn_N269 q2_0 (by omega)
      have q5 : IMk s3 := by rw [es3]; exact IMk_o (by unfold suIMk; omega) q2_1
      have q6 : IMo s3 := by rw [es3]; exact IMo_o (by unfold suIMo; omega) q2_2
      have q7 : s3 268 8 = s0 268 8 := (show s3 268 8 = s_2 268 8 from by rw [es3, xU_k _ _ _ (by omega)]).trans q2_3
      have q8 : s3 268 58 = s0 268 58 := (show s3 268 58 = s_2 268 58 from by rw [es3, xU_k _ _ _ (by omega)]).trans q2_4
      have hF9 := hF_2.put es3 (by omega)
      have E13 := es3
      refine x_iinc (lv' := [(2, .int (xJ (i2_2 + 1))), (0, .ref (h0 + 271)), (1, .ref (h0 + 269))]) hx hb hl 2 rfl dX11_copies_14 (by decide) rfl (fun ls hl => ?_)
      refine lv_goto (tgt := 2) hx hb dX11_copies_17 (by decide) ?_
      exact ih2 (i2_2 + 1) s3 H locs ls (by omega) hF9 q4 q5 q6 q7 q8 (by omega) (by omega) (fun q q1 q2 => (Classical.em (q < i2_2)).elim (fun h => by rw [E13, xU_j _ _ (by omega)]; exact v2_2 q q1 h) (fun h => by rw [show q = i2_2 from by omega, E13, xU_s, R12, hF_2 271 (by omega)])) (by omega) hW (lv_sub hl [1, 2, 0] rfl)
  exact L2 ((39 + 1 - 0 : Int).toNat + 1) 0 s0 H locs ls (by decide) hF p0 p1 p2 k268_8 k268_58 (by omega) (by omega) (fun q q1 q2 => absurd q2 (by omega)) (Nat.lt_succ_self _) hW (lv_sub hl [1, 2, 0] rfl)
set_option maxHeartbeats 4000000 in
set_option maxRecDepth 100000 in
theorem c_X11_minutesGoM (l : Launch) (D : va_G) (g : xG) (T : Nat × Nat × Nat) (h0 : Nat) (s0 : xS) (hσ : xRR s0) (n : Int) (rn : xR n) (p0 : IMn s0) (p1 : IMk s0) (p2 : IMo s0) : Met l yX11_minutesGo (xws yX11_minutesGo cX11_minutesGo 3 none) { frames := 8, cells := 0, slots := 0, locals := 187 } (xP [.ref (h0 + 268), .int (xJ n)] D g T h0 s0) (xQv D g h0 (fun τ => xFr (fun k => k = 268 ∨ k = 269 ∨ k = 293 ∨ k = 294 ∨ k = 295 ∨ k = 296 ∨ k = 297 ∨ k = 298 ∨ k = 299) s0 τ ∧ (((IMn τ) ∧ (IMk τ) ∧ (IMo τ) ∧ (τ 268 8 = s0 268 8) ∧ (τ 268 58 = s0 268 58) ∧ True) ∧ (0 ≤ n → (τ 269 37 = s0 269 37 + n ∨ (9999 ≤ τ 269 37 ∧ s0 269 37 ≤ τ 269 37 ∧ τ 269 37 ≤ s0 269 37 + n)))))) 0 0 (xA h0) := by
  refine x_met hσ (by decide) (Nat.le_of_ble_eq_true rfl) ?_
  intro p e s m args below meth c hx hb hr hml hown hT hlk hnm hE hW ls hl
  have hl : lv_has ls 3 [(0, .ref (h0 + 268)), (1, .int (xJ n))] := hl
  obtain ⟨Q, eQ⟩ : ∃ Q, Q = MQ below (xQv D g h0 (fun τ => xFr (fun k => k = 268 ∨ k = 269 ∨ k = 293 ∨ k = 294 ∨ k = 295 ∨ k = 296 ∨ k = 297 ∨ k = 298 ∨ k = 299) s0 τ ∧ (((IMn τ) ∧ (IMk τ) ∧ (IMo τ) ∧ (τ 268 8 = s0 268 8) ∧ (τ 268 58 = s0 268 58) ∧ True) ∧ (0 ≤ n → (τ 269 37 = s0 269 37 + n ∨ (9999 ≤ τ 269 37 ∧ s0 269 37 ≤ τ 269 37 ∧ τ 269 37 ≤ s0 269 37 + n)))))) args s 0 0 (xA h0) := ⟨_, rfl⟩
  rw [← eQ]
  generalize hHe : ([] : List Loc) = locs at hW ⊢
  obtain ⟨H, eH⟩ : ∃ H, H = s.heap := ⟨_, rfl⟩
  rw [← eH] at hW ⊢
  have hF : xFr (fun k => k = 268 ∨ k = 269 ∨ k = 293 ∨ k = 294 ∨ k = 295 ∨ k = 296 ∨ k = 297 ∨ k = 298 ∨ k = 299) s0 s0 := xFr.rf
  have k268_8 : s0 268 8 = s0 268 8 := rfl
  have k268_58 : s0 268 58 = s0 268 58 := rfl
  have k269_37 : s0 269 37 = s0 269 37 := rfl
  refine x_aload_n hx hb hl 0 rfl dX11_minutesGo_0 rfl ?_
  refine x_gov (x_runV (As := []) hx hb hml hown hT hE hW hl.1 (Or.inl (by decide)) (so_268 h0 g _) rfl cf_X11_begins wq1543 wq131 wq1541 (c_X11_begins l D g T h0 s0 hW.2.1 p0 p1 p2) ⟨rfl, rfl, ⟨by decide, by decide⟩, ⟨by decide, by decide⟩⟩ rfl rfl (Nat.le_of_ble_eq_true rfl) dX11_minutesGo_1) hW (fun s2 H locs hp3 hW => ?_)
  obtain ⟨fs2, hp3⟩ := hp3
  have hF4 := hF.call fs2 (fun k h => by omega)
  have q5 : s2 269 37 = s0 269 37 := (congrFun (fs2 _ (by omega)) _).trans k269_37
  have ghp3 := hp3.2
  refine x_iconst hx hb dX11_minutesGo_4 ?_
  refine lv_istore_n (lv' := [(2, .int (xJ 0)), (0, .ref (h0 + 268)), (1, .int (xJ n))]) hx hb dX11_minutesGo_5 rfl hl (by decide) rfl (fun ls hl => ?_)
  have L6 : ∀ (fu : Nat) (i2_6 : Int) (s_6 : xS) (H : Heap) (locs : List Loc) (ls : Array Slot), (xR i2_6) → (xFr (fun k => k = 268 ∨ k = 269 ∨ k = 293 ∨ k = 294 ∨ k = 295 ∨ k = 296 ∨ k = 297 ∨ k = 298 ∨ k = 299) s0 s_6) → (IMn s_6) → (IMk s_6) → (IMo s_6) → (s_6 268 8 = s0 268 8) → (s_6 268 58 = s0 268 58) → (0 ≤ i2_6) → (s_6 269 37 = s0 269 37 + i2_6) → (0 ≤ n → i2_6 ≤ n) → (n + 1 - i2_6).toNat < fu → xW D g h0 s H locs s_6 → lv_has ls 3 [(0, .ref (h0 + 268)), (1, .int (xJ n)), (2, .int (xJ i2_6))] → W p l e { frames := 8, cells := 0, slots := 0, locals := 187 } s m args below meth c H locs 0 0 Q (F0 m 6 ls []) := by
    intro fu
    induction fu with
    | zero => intro i2_6 s_6 H locs ls ri2_6 hF_6 q6_1 q6_2 q6_3 q6_4 q6_5 v6_0 v6_1 v6_2 hm; exact absurd hm (Nat.not_lt_zero _)
    | succ fu ih6 =>
      intro i2_6 s_6 H locs ls ri2_6 hF_6 q6_1 q6_2 q6_3 q6_4 q6_5 v6_0 v6_1 v6_2 hm hW hl
      refine x_iload_n hx hb hl 2 rfl dX11_minutesGo_6 rfl ?_
      refine x_iload_n hx hb hl 1 rfl dX11_minutesGo_7 rfl ?_
      refine x_icmp_ge (tgt := 44) hx hb ri2_6 rn dX11_minutesGo_8 (by decide) (fun c6 => ?_) (fun c6 => ?_)
      · skip
        rw [eQ]
        exact x_vret hx hb hr hlk hW ⟨hF_6, ⟨q6_1, q6_2, q6_3, q6_4, q6_5, trivial⟩, by omega⟩ dX11_minutesGo_44
      refine x_aload_n hx hb hl 0 rfl dX11_minutesGo_11 rfl ?_
      refine x_get (j := 0) (v := .ref (h0 + 269)) hx hb hown hT hE hW cls_X11 (Or.inl (by decide)) (so_268 h0 g _) (by decide) rfl wq1185 dX11_minutesGo_12 ?_
      refine x_bipush hx hb dX11_minutesGo_15 (by decide) ?_
      refine x_iald hx hb hE hW (Or.inl (by decide)) (sa_269 h0 g _) ⟨by decide, by decide⟩ (by decide) dX11_minutesGo_17 ?_
      refine x_rd hW (fun x7 ex7 rx7 => ?_)
      have bx7 : 0 ≤ x7 ∧ x7 ≤ 9999 := by rw [ex7]; exact (IMn.n1 q6_1).2.2.2.1
      have q8 : s_6 269 37 = x7 := ex7.symm
      refine x_sipush hx hb dX11_minutesGo_18 (by decide) ?_
      refine x_icmp_ge (tgt := 44) hx hb rx7 (by decide) dX11_minutesGo_21 (by decide) (fun c9 => ?_) (fun c9 => ?_)
      · skip
        rw [eQ]
        exact x_vret hx hb hr hlk hW ⟨hF_6, ⟨q6_1, q6_2, q6_3, q6_4, q6_5, trivial⟩, by omega⟩ dX11_minutesGo_44
      refine x_aload_n hx hb hl 0 rfl dX11_minutesGo_24 rfl ?_
      refine x_iconst hx hb dX11_minutesGo_25 ?_
      refine x_gov (x_runV (As := [.int (xJ 0)]) hx hb hml hown hT hE hW hl.1 (Or.inl (by decide)) (so_268 h0 g _) rfl cf_X11_walksOn wq1547 wq132 wq1545 (c_X11_walksOn l D g T h0 s_6 hW.2.1 0 (by decide) (by omega) q6_1 q6_2 q6_3) ⟨rfl, rfl, ⟨by decide, by decide⟩, ⟨by decide, by decide⟩⟩ rfl rfl (Nat.le_of_ble_eq_true rfl) dX11_minutesGo_26) hW (fun s11 H locs hp12 hW => ?_)
      obtain ⟨fs11, hp12⟩ := hp12
      have hF13 := hF_6.call fs11 (fun k h => by omega)
      have q14 : s11 268 8 = s0 268 8 := (congrFun (fs11 _ (by omega)) _).trans q6_4
      have q15 : s11 268 58 = s0 268 58 := (congrFun (fs11 _ (by omega)) _).trans q6_5
      have ghp12 := hp12.2
      refine x_aload_n hx hb hl 0 rfl dX11_minutesGo_29 rfl ?_
      refine x_iconst hx hb dX11_minutesGo_30 ?_
      refine x_gov (x_runV (As := [.int (xJ 1)]) hx hb hml hown hT hE hW hl.1 (Or.inl (by decide)) (so_268 h0 g _) rfl cf_X11_walksOn wq1547 wq132 wq1545 (c_X11_walksOn l D g T h0 s11 hW.2.1 1 (by decide) (by omega) hp12.1.1 hp12.1.2.1 hp12.1.2.2.1) ⟨rfl, rfl, ⟨by decide, by decide⟩, ⟨by decide, by decide⟩⟩ rfl rfl (Nat.le_of_ble_eq_true rfl) dX11_minutesGo_31) hW (fun s17 H locs hp18 hW => ?_)
      obtain ⟨fs17, hp18⟩ := hp18
      have hF19 := hF13.call fs17 (fun k h => by omega)
      have q20 : s17 268 8 = s0 268 8 := (congrFun (fs17 _ (by omega)) _).trans q14
      have q21 : s17 268 58 = s0 268 58 := (congrFun (fs17 _ (by omega)) _).trans q15
      have ghp18 := hp18.2
      refine x_aload_n hx hb hl 0 rfl dX11_minutesGo_34 rfl ?_
      refine x_gov (x_runV (As := []) hx hb hml hown hT hE hW hl.1 (Or.inl (by decide)) (so_268 h0 g _) rfl cf_X11_shadesGo wq1564 wq134 wq1562 (c_X11_shadesGo l D g T h0 s17 hW.2.1 (by have := (hp18.1.2.2.2.1.trans (hp12.1.2.2.2.1.trans q8)); omega) hp18.1.1 hp18.1.2.1 hp18.1.2.2.1) ⟨rfl, rfl, ⟨by decide, by decide⟩, ⟨by decide, by decide⟩⟩ rfl rfl (Nat.le_of_ble_eq_true rfl) dX11_minutesGo_35) hW (fun s23 H locs hp24 hW => ?_)
      obtain ⟨fs23, hp24⟩ := hp24
      have hF25 := hF19.call fs23 (fun k h => by omega)
      have ghp24 := hp24.2
      refine x_iinc (lv' := [(2, .int (xJ (i2_6 + 1))), (0, .ref (h0 + 268)), (1, .int (xJ n))]) hx hb hl 2 rfl dX11_minutesGo_38 (by decide) rfl (fun ls hl => ?_)
      refine lv_goto (tgt := 6) hx hb dX11_minutesGo_41 (by decide) ?_
      exact ih6 (i2_6 + 1) s23 H locs ls (by omega) hF25 hp24.1.1 hp24.1.2.1 hp24.1.2.2.1 (hp24.1.2.2.2.1.trans q20) (hp24.1.2.2.2.2.1.trans q21) (by omega) (by omega) (by omega) (by omega) hW (lv_sub hl [1, 2, 0] rfl)
  exact L6 ((n + 1 - 0 : Int).toNat + 1) 0 s2 H locs ls (by decide) hF4 hp3.1.1 hp3.1.2.1 hp3.1.2.2.1 (hp3.1.2.2.2.1.trans k268_8) (hp3.1.2.2.2.2.1.trans k268_58) (by omega) (by omega) (by omega) (Nat.lt_succ_self _) hW (lv_sub hl [1, 2, 0] rfl)
set_option maxHeartbeats 4000000 in
set_option maxRecDepth 100000 in
theorem c_X11_minutesM (l : Launch) (D : va_G) (g : xG) (T : Nat × Nat × Nat) (h0 : Nat) (s0 : xS) (hσ : xRR s0) (n : Int) (rn : xR n) (p0 : IMn s0) (p1 : IMk s0) (p2 : IMo s0) : Met l yX11_minutes (xws yX11_minutes cX11_minutes 2 (some .int)) { frames := 9, cells := 0, slots := 0, locals := 209 } (xP [.ref (h0 + 268), .int (xJ n)] D g T h0 s0) (xQi D g h0 (fun r τ => xFr (fun k => k = 268 ∨ k = 269 ∨ k = 293 ∨ k = 294 ∨ k = 295 ∨ k = 296 ∨ k = 297 ∨ k = 298 ∨ k = 299) s0 τ ∧ (((IMn τ) ∧ (IMk τ) ∧ (IMo τ) ∧ (τ 268 8 = s0 268 8) ∧ (τ 268 58 = s0 268 58) ∧ True) ∧ ((1 ≤ n ∧ n ≤ 120 ∧ (τ 269 37 = s0 269 37 + n ∨ (9999 ≤ τ 269 37 ∧ s0 269 37 ≤ τ 269 37 ∧ τ 269 37 ≤ s0 269 37 + n))) ∨ (¬ (1 ≤ n ∧ n ≤ 120) ∧ τ 269 37 = s0 269 37 ∧ r = -1))))) 0 0 (xA h0) := by
  refine x_met hσ (by decide) (Nat.le_of_ble_eq_true rfl) ?_
  intro p e s m args below meth c hx hb hr hml hown hT hlk hnm hE hW ls hl
  have hl : lv_has ls 2 [(0, .ref (h0 + 268)), (1, .int (xJ n))] := hl
  obtain ⟨Q, eQ⟩ : ∃ Q, Q = MQ below (xQi D g h0 (fun r τ => xFr (fun k => k = 268 ∨ k = 269 ∨ k = 293 ∨ k = 294 ∨ k = 295 ∨ k = 296 ∨ k = 297 ∨ k = 298 ∨ k = 299) s0 τ ∧ (((IMn τ) ∧ (IMk τ) ∧ (IMo τ) ∧ (τ 268 8 = s0 268 8) ∧ (τ 268 58 = s0 268 58) ∧ True) ∧ ((1 ≤ n ∧ n ≤ 120 ∧ (τ 269 37 = s0 269 37 + n ∨ (9999 ≤ τ 269 37 ∧ s0 269 37 ≤ τ 269 37 ∧ τ 269 37 ≤ s0 269 37 + n))) ∨ (¬ (1 ≤ n ∧ n ≤ 120) ∧ τ 269 37 = s0 269 37 ∧ r = -1))))) args s 0 0 (xA h0) := ⟨_, rfl⟩
  rw [← eQ]
  generalize hHe : ([] : List Loc) = locs at hW ⊢
  obtain ⟨H, eH⟩ : ∃ H, H = s.heap := ⟨_, rfl⟩
  rw [← eH] at hW ⊢
  have hF : xFr (fun k => k = 268 ∨ k = 269 ∨ k = 293 ∨ k = 294 ∨ k = 295 ∨ k = 296 ∨ k = 297 ∨ k = 298 ∨ k = 299) s0 s0 := xFr.rf
  have k268_8 : s0 268 8 = s0 268 8 := rfl
  have k268_58 : s0 268 58 = s0 268 58 := rfl
  have k269_37 : s0 269 37 = s0 269 37 := rfl
  refine x_iload_n hx hb hl 1 rfl dX11_minutes_0 rfl ?_
  refine x_iconst hx hb dX11_minutes_1 ?_
  refine x_bipush hx hb dX11_minutes_2 (by decide) ?_
  refine x_goi (x_runS (As := [.int (xJ n), .int (xJ 1), .int (xJ 120)]) hx hb hml hown hT hE hW hl.1 cf_X11_in wq1383 wq1382 (c_X11_in l D g T h0 s0 hW.2.1 n rn 1 (by decide) 120 (by decide)) ⟨rfl, rfl, ⟨by decide, by decide⟩, ⟨by decide, by decide⟩⟩ rfl rfl (Nat.le_of_ble_eq_true rfl) dX11_minutes_4) hW (fun x1 s2 H locs rx1 hp3 hW => ?_)
  obtain ⟨es2, hp3⟩ := hp3
  subst es2
  have ghp3 := hp3
  refine x_if_ne (tgt := 12) hx hb rx1 dX11_minutes_7 (by decide) (fun c4 => ?_) (fun c4 => ?_)
  · skip
    refine x_aload_n hx hb hl 0 rfl dX11_minutes_12 rfl ?_
    refine x_iload_n hx hb hl 1 rfl dX11_minutes_13 rfl ?_
    refine x_gov (x_runV (As := [.int (xJ n)]) hx hb hml hown hT hE hW hl.1 (Or.inl (by decide)) (so_268 h0 g _) rfl cf_X11_minutesGo wq1539 wq130 wq1537 (c_X11_minutesGoM l D g T h0 s0 hW.2.1 n rn p0 p1 p2) ⟨rfl, rfl, ⟨by decide, by decide⟩, ⟨by decide, by decide⟩⟩ rfl rfl (Nat.le_of_ble_eq_true rfl) dX11_minutes_14) hW (fun s6 H locs hp7 hW => ?_)
    obtain ⟨fs6, hp7⟩ := hp7
    have hF8 := hF.call fs6 (fun k h => by omega)
    have ghp7 := hp7.2
    refine x_aload_n hx hb hl 0 rfl dX11_minutes_17 rfl ?_
    refine x_get (j := 41) (v := .int (xJ (s6 268 41))) hx hb hown hT hE hW cls_X11 (Or.inl (by decide)) (so_268 h0 g _) (by decide) rfl wq1226 dX11_minutes_18 ?_
    refine x_rd hW (fun x9 ex9 rx9 => ?_)
    rw [eQ]
    exact x_iret hx hb hr hlk hW rx9 ⟨hF8, ⟨hp7.1.1, hp7.1.2.1, hp7.1.2.2.1, (hp7.1.2.2.2.1.trans k268_8), (hp7.1.2.2.2.2.1.trans k268_58), trivial⟩, by omega⟩ dX11_minutes_21
  refine x_iconst hx hb dX11_minutes_10 ?_
  rw [eQ]
  exact x_iret hx hb hr hlk hW (by decide) ⟨hF, ⟨p0, p1, p2, k268_8, k268_58, trivial⟩, by omega⟩ dX11_minutes_11
set_option maxHeartbeats 4000000 in
set_option maxRecDepth 100000 in
theorem c_X11_triedM (l : Launch) (D : va_G) (g : xG) (T : Nat × Nat × Nat) (h0 : Nat) (s0 : xS) (hσ : xRR s0) (n : Int) (rn : xR n) (x : Int) (rx : xR x) (p0 : IMn s0) (p1 : IMk s0) (p2 : IMo s0) : Met l yX11_tried (xws yX11_tried cX11_tried 5 (some .int)) { frames := 9, cells := 0, slots := 0, locals := 209 } (xP [.ref (h0 + 268), .int (xJ n), .int (xJ x)] D g T h0 s0) (xQi D g h0 (fun r τ => xFr (fun k => k = 268 ∨ k = 269 ∨ k = 270 ∨ k = 293 ∨ k = 294 ∨ k = 295 ∨ k = 296 ∨ k = 297 ∨ k = 298 ∨ k = 299) s0 τ ∧ (((IMn τ) ∧ (IMk τ) ∧ (IMo τ) ∧ (τ 268 8 = s0 268 8) ∧ (τ 268 58 = s0 268 58) ∧ (τ 269 37 = s0 269 37) ∧ True) ∧ (True)))) 0 0 (xA h0) := by
  refine x_met hσ (by decide) (Nat.le_of_ble_eq_true rfl) ?_
  intro p e s m args below meth c hx hb hr hml hown hT hlk hnm hE hW ls hl
  have hl : lv_has ls 5 [(0, .ref (h0 + 268)), (1, .int (xJ n)), (2, .int (xJ x))] := hl
  obtain ⟨Q, eQ⟩ : ∃ Q, Q = MQ below (xQi D g h0 (fun r τ => xFr (fun k => k = 268 ∨ k = 269 ∨ k = 270 ∨ k = 293 ∨ k = 294 ∨ k = 295 ∨ k = 296 ∨ k = 297 ∨ k = 298 ∨ k = 299) s0 τ ∧ (((IMn τ) ∧ (IMk τ) ∧ (IMo τ) ∧ (τ 268 8 = s0 268 8) ∧ (τ 268 58 = s0 268 58) ∧ (τ 269 37 = s0 269 37) ∧ True) ∧ (True)))) args s 0 0 (xA h0) := ⟨_, rfl⟩
  rw [← eQ]
  generalize hHe : ([] : List Loc) = locs at hW ⊢
  obtain ⟨H, eH⟩ : ∃ H, H = s.heap := ⟨_, rfl⟩
  rw [← eH] at hW ⊢
  have hF : xFr (fun k => k = 268 ∨ k = 269 ∨ k = 270 ∨ k = 293 ∨ k = 294 ∨ k = 295 ∨ k = 296 ∨ k = 297 ∨ k = 298 ∨ k = 299) s0 s0 := xFr.rf
  have k268_8 : s0 268 8 = s0 268 8 := rfl
  have k268_58 : s0 268 58 = s0 268 58 := rfl
  have k269_37 : s0 269 37 = s0 269 37 := rfl
  refine x_iload_n hx hb hl 2 rfl dX11_tried_0 rfl ?_
  refine x_iconst hx hb dX11_tried_1 ?_
  refine x_iconst hx hb dX11_tried_2 ?_
  refine x_goi (x_runS (As := [.int (xJ x), .int (xJ 0), .int (xJ 5)]) hx hb hml hown hT hE hW hl.1 cf_X11_in wq1383 wq1382 (c_X11_in l D g T h0 s0 hW.2.1 x rx 0 (by decide) 5 (by decide)) ⟨rfl, rfl, ⟨by decide, by decide⟩, ⟨by decide, by decide⟩⟩ rfl rfl (Nat.le_of_ble_eq_true rfl) dX11_tried_3) hW (fun x1 s2 H locs rx1 hp3 hW => ?_)
  obtain ⟨es2, hp3⟩ := hp3
  subst es2
  have ghp3 := hp3
  have J58 : ∀ (t0_58 : Int) (H : Heap) (locs : List Loc) (ls : Array Slot), (xR t0_58) → (t0_58 = 0 ∨ (t0_58 = 1 ∧ ((0 ≤ x ∧ x ≤ 5) ∨ (10 ≤ x ∧ x ≤ 31)))) → xW D g h0 s H locs s0 → lv_has ls 5 [(0, .ref (h0 + 268)), (1, .int (xJ n)), (2, .int (xJ x))] → W p l e { frames := 9, cells := 0, slots := 0, locals := 209 } s m args below meth c H locs 0 0 Q (F0 m 58 ls [.int (xJ t0_58)]) := by
    intro t0_58 H locs ls rt0_58 v58_0 hW hl
    refine lv_istore_n (lv' := [(3, .int (xJ t0_58)), (0, .ref (h0 + 268)), (1, .int (xJ n)), (2, .int (xJ x))]) hx hb dX11_tried_58 rfl hl (by decide) rfl (fun ls hl => ?_)
    refine x_iload_n hx hb hl 2 rfl dX11_tried_59 rfl ?_
    refine x_iconst hx hb dX11_tried_60 ?_
    refine x_bipush hx hb dX11_tried_61 (by decide) ?_
    refine x_goi (x_runS (As := [.int (xJ n), .int (xJ 1), .int (xJ 120)]) hx hb hml hown hT hE hW hl.1 cf_X11_in wq1383 wq1382 (c_X11_in l D g T h0 s0 hW.2.1 n rn 1 (by decide) 120 (by decide)) ⟨rfl, rfl, ⟨by decide, by decide⟩, ⟨by decide, by decide⟩⟩ rfl rfl (Nat.le_of_ble_eq_true rfl) dX11_tried_63) hW (fun x4 s5 H locs rx4 hp6 hW => ?_)
    obtain ⟨es5, hp6⟩ := hp6
    subst es5
    have ghp6 := hp6
    refine x_if_eq (tgt := 73) hx hb rx4 dX11_tried_66 (by decide) (fun c7 => ?_) (fun c7 => ?_)
    · skip
      refine x_iconst hx hb dX11_tried_73 ?_
      rw [eQ]
      exact x_iret hx hb hr hlk hW (by decide) ⟨hF, ⟨p0, p1, p2, k268_8, k268_58, k269_37, trivial⟩, trivial⟩ dX11_tried_74
    refine x_iload_n hx hb hl 0 rfl dX11_tried_69 rfl ?_
    refine x_if_ne (tgt := 75) hx hb rt0_58 dX11_tried_70 (by decide) (fun c8 => ?_) (fun c8 => ?_)
    · skip
      refine x_aload_n hx hb hl 1 rfl dX11_tried_75 rfl ?_
      refine x_get (j := 0) (v := .ref (h0 + 269)) hx hb hown hT hE hW cls_X11 (Or.inl (by decide)) (so_268 h0 g _) (by decide) rfl wq1185 dX11_tried_76 ?_
      refine x_aload_n hx hb hl 1 rfl dX11_tried_79 rfl ?_
      refine x_get (j := 1) (v := .ref (h0 + 270)) hx hb hown hT hE hW cls_X11 (Or.inl (by decide)) (so_268 h0 g _) (by decide) rfl wq1186 dX11_tried_80 ?_
      refine x_gov (x_runS (As := [.ref (h0 + 269), .ref (h0 + 270)]) hx hb hml hown hT hE hW hl.1 cf_X11_copies wq1647 wq1646 (c_X11_copiesMA l D g T h0 s0 hW.2.1 p0 p1 p2) ⟨rfl, rfl, ⟨by decide, by decide⟩, ⟨by decide, by decide⟩⟩ rfl rfl (Nat.le_of_ble_eq_true rfl) dX11_tried_83) hW (fun s10 H locs hp11 hW => ?_)
      obtain ⟨fs10, hp11⟩ := hp11
      have hF12 := hF.call fs10 (fun k h => by omega)
      have q13 : s10 268 8 = s0 268 8 := (congrFun (fs10 _ (by omega)) _).trans k268_8
      have q14 : s10 268 58 = s0 268 58 := (congrFun (fs10 _ (by omega)) _).trans k268_58
      have q15 : s10 269 37 = s0 269 37 := (congrFun (fs10 _ (by omega)) _).trans k269_37
      have ghp11 := hp11.2
      have q16 : s10 270 37 = s0 269 37 := (ghp11 37 (by decide) (by decide)).trans ((congrFun (fs10 269 (by omega)) 37).symm.trans q15)
      refine x_aload_n hx hb hl 1 rfl dX11_tried_86 rfl ?_
      refine x_iload_n hx hb hl 2 rfl dX11_tried_87 rfl ?_
      refine x_gov (x_runV (As := [.int (xJ n)]) hx hb hml hown hT hE hW hl.1 (Or.inl (by decide)) (so_268 h0 g _) rfl cf_X11_minutesGo wq1539 wq130 wq1537 (c_X11_minutesGoM l D g T h0 s10 hW.2.1 n rn hp11.1.1 hp11.1.2.1 hp11.1.2.2.1) ⟨rfl, rfl, ⟨by decide, by decide⟩, ⟨by decide, by decide⟩⟩ rfl rfl (Nat.le_of_ble_eq_true rfl) dX11_tried_88) hW (fun s18 H locs hp19 hW => ?_)
      obtain ⟨fs18, hp19⟩ := hp19
      have hF20 := hF12.call fs18 (fun k h => by omega)
      have q21 : s18 270 37 = s0 269 37 := (congrFun (fs18 _ (by omega)) _).trans q16
      have ghp19 := hp19.2
      refine x_iload_n hx hb hl 3 rfl dX11_tried_91 rfl ?_
      have J254 : ∀ (i4_254 : Int) (H : Heap) (locs : List Loc) (ls : Array Slot), (xR i4_254) → xW D g h0 s H locs s18 → lv_has ls 5 [(0, .ref (h0 + 268)), (4, .int (xJ i4_254))] → W p l e { frames := 9, cells := 0, slots := 0, locals := 209 } s m args below meth c H locs 0 0 Q (F0 m 254 ls []) := by
        intro i4_254 H locs ls ri4_254 hW hl
        refine x_aload_n hx hb hl 0 rfl dX11_tried_254 rfl ?_
        refine x_get (j := 1) (v := .ref (h0 + 270)) hx hb hown hT hE hW cls_X11 (Or.inl (by decide)) (so_268 h0 g _) (by decide) rfl wq1186 dX11_tried_255 ?_
        refine x_aload_n hx hb hl 0 rfl dX11_tried_258 rfl ?_
        refine x_get (j := 0) (v := .ref (h0 + 269)) hx hb hown hT hE hW cls_X11 (Or.inl (by decide)) (so_268 h0 g _) (by decide) rfl wq1185 dX11_tried_259 ?_
        refine x_gov (x_runS (As := [.ref (h0 + 270), .ref (h0 + 269)]) hx hb hml hown hT hE hW hl.1 cf_X11_copies wq1647 wq1646 (c_X11_copiesMB l D g T h0 s18 hW.2.1 hp19.1.1 hp19.1.2.1 hp19.1.2.2.1) ⟨rfl, rfl, ⟨by decide, by decide⟩, ⟨by decide, by decide⟩⟩ rfl rfl (Nat.le_of_ble_eq_true rfl) dX11_tried_262) hW (fun s23 H locs hp24 hW => ?_)
        obtain ⟨fs23, hp24⟩ := hp24
        have hF25 := hF20.call fs23 (fun k h => by omega)
        have q26 : s23 270 37 = s0 269 37 := (congrFun (fs23 _ (by omega)) _).trans q21
        have q27 : s23 268 8 = s0 268 8 := (congrFun (fs23 _ (by omega)) _).trans (hp19.1.2.2.2.1.trans q13)
        have q28 : s23 268 58 = s0 268 58 := (congrFun (fs23 _ (by omega)) _).trans (hp19.1.2.2.2.2.1.trans q14)
        have ghp24 := hp24.2
        have q29 : s23 269 37 = s0 269 37 := (ghp24 37 (by decide) (by decide)).trans ((congrFun (fs23 270 (by omega)) 37).symm.trans q26)
        refine x_iload hx hb hl 1 rfl dX11_tried_265 ?_
        rw [eQ]
        exact x_iret hx hb hr hlk hW ri4_254 ⟨hF25, ⟨hp24.1.1, hp24.1.2.1, hp24.1.2.2.1, q27, q28, q29, trivial⟩, trivial⟩ dX11_tried_267
      rcases (show (x < 0 ∨ 5 < x) ∨ x = 0 ∨ x = 1 ∨ x = 2 ∨ x = 3 ∨ x = 4 ∨ x = 5 from by omega) with c30 | c30 | c30 | c30 | c30 | c30 | c30
      · refine x_tabOut (tgt := 200) hx hb rx dX11_tried_92 c30 (by decide) ?_
        refine x_iload_n hx hb hl 3 rfl dX11_tried_200 rfl ?_
        refine x_bipush hx hb dX11_tried_201 (by decide) ?_
        have J252 : ∀ (t0_252 : Int) (ls : Array Slot), (xR t0_252) → lv_has ls 5 [(0, .ref (h0 + 268))] → W p l e { frames := 9, cells := 0, slots := 0, locals := 209 } s m args below meth c H locs 0 0 Q (F0 m 252 ls [.int (xJ t0_252)]) := by
          intro t0_252 ls rt0_252  hl
          refine lv_istore (lv' := [(4, .int (xJ t0_252)), (0, .ref (h0 + 268))]) hx hb dX11_tried_252 hl (by decide) rfl (fun ls hl => ?_)
          exact J254 t0_252 H locs ls rt0_252 hW (lv_sub hl [1, 0] rfl)
        refine x_icmp_ge (tgt := 220) hx hb rx (by decide) dX11_tried_203 (by decide) (fun c31 => ?_) (fun c31 => ?_)
        · skip
          refine x_iload_n hx hb hl 3 rfl dX11_tried_220 rfl ?_
          refine x_bipush hx hb dX11_tried_221 (by decide) ?_
          refine x_icmp_ge (tgt := 241) hx hb rx (by decide) dX11_tried_223 (by decide) (fun c32 => ?_) (fun c32 => ?_)
          · skip
            refine x_aload_n hx hb hl 1 rfl dX11_tried_241 rfl ?_
            refine x_get (j := 0) (v := .ref (h0 + 269)) hx hb hown hT hE hW cls_X11 (Or.inl (by decide)) (so_268 h0 g _) (by decide) rfl wq1185 dX11_tried_242 ?_
            refine x_iconst hx hb dX11_tried_245 ?_
            refine x_iload_n hx hb hl 3 rfl dX11_tried_246 rfl ?_
            refine x_iadd hx hb dX11_tried_247 ?_
            refine x_bipush hx hb dX11_tried_248 (by decide) ?_
            refine x_isub hx hb dX11_tried_250 ?_
            refine x_iald hx hb hE hW (Or.inl (by decide)) (sa_269 h0 g _) (by omega) (by decide) dX11_tried_251 ?_
            refine x_rd hW (fun x33 ex33 rx33 => ?_)
            have bx33 : 0 ≤ x33 ∧ x33 ≤ 99 := by rw [ex33]; exact (IMn.n1 hp19.1.1).1 _ (by omega) (by omega)
            exact J252 x33 ls rx33  (lv_sub hl [1] rfl)
          refine x_aload_n hx hb hl 1 rfl dX11_tried_226 rfl ?_
          refine x_get (j := 0) (v := .ref (h0 + 269)) hx hb hown hT hE hW cls_X11 (Or.inl (by decide)) (so_268 h0 g _) (by decide) rfl wq1185 dX11_tried_227 ?_
          refine x_bipush hx hb dX11_tried_230 (by decide) ?_
          refine x_iload_n hx hb hl 3 rfl dX11_tried_232 rfl ?_
          refine x_iadd hx hb dX11_tried_233 ?_
          refine x_bipush hx hb dX11_tried_234 (by decide) ?_
          refine x_isub hx hb dX11_tried_236 ?_
          refine x_iald hx hb hE hW (Or.inl (by decide)) (sa_269 h0 g _) (by omega) (by decide) dX11_tried_237 ?_
          refine x_rd hW (fun x34 ex34 rx34 => ?_)
          refine lv_goto (tgt := 252) hx hb dX11_tried_238 (by decide) ?_
          exact J252 x34 ls rx34  (lv_sub hl [1] rfl)
        refine x_aload_n hx hb hl 1 rfl dX11_tried_206 rfl ?_
        refine x_get (j := 0) (v := .ref (h0 + 269)) hx hb hown hT hE hW cls_X11 (Or.inl (by decide)) (so_268 h0 g _) (by decide) rfl wq1185 dX11_tried_207 ?_
        refine x_iconst hx hb dX11_tried_210 ?_
        refine x_iload_n hx hb hl 3 rfl dX11_tried_211 rfl ?_
        refine x_iadd hx hb dX11_tried_212 ?_
        refine x_bipush hx hb dX11_tried_213 (by decide) ?_
        refine x_isub hx hb dX11_tried_215 ?_
        refine x_iald hx hb hE hW (Or.inl (by decide)) (sa_269 h0 g _) (by omega) (by decide) dX11_tried_216 ?_
        refine x_rd hW (fun x35 ex35 rx35 => ?_)
        have bx35 : 0 ≤ x35 ∧ x35 ≤ 99 := by rw [ex35]; exact (IMn.n1 hp19.1.1).2.2.1 _ (by omega) (by omega)
        refine lv_goto (tgt := 252) hx hb dX11_tried_217 (by decide) ?_
        exact J252 x35 ls rx35  (lv_sub hl [1] rfl)
      · refine x_tabIn (v := 0) (tgt := 132) hx hb rx c30 dX11_tried_92 (by decide) rfl (by decide) ?_
        refine x_aload_n hx hb hl 1 rfl dX11_tried_132 rfl ?_
        refine x_get (j := 41) (v := .int (xJ (s18 268 41))) hx hb hown hT hE hW cls_X11 (Or.inl (by decide)) (so_268 h0 g _) (by decide) rfl wq1226 dX11_tried_133 ?_
        refine x_rd hW (fun x36 ex36 rx36 => ?_)
        refine lv_istore (lv' := [(4, .int (xJ x36)), (3, .int (xJ t0_58)), (0, .ref (h0 + 268)), (1, .int (xJ n)), (2, .int (xJ x))]) hx hb dX11_tried_136 hl (by decide) rfl (fun ls hl => ?_)
        refine lv_goto (tgt := 254) hx hb dX11_tried_138 (by decide) ?_
        exact J254 x36 H locs ls rx36 hW (lv_sub hl [2, 0] rfl)
      · refine x_tabIn (v := 1) (tgt := 141) hx hb rx c30 dX11_tried_92 (by decide) rfl (by decide) ?_
        refine x_aload_n hx hb hl 1 rfl dX11_tried_141 rfl ?_
        refine x_get (j := 42) (v := .int (xJ (s18 268 42))) hx hb hown hT hE hW cls_X11 (Or.inl (by decide)) (so_268 h0 g _) (by decide) rfl wq1227 dX11_tried_142 ?_
        refine x_rd hW (fun x37 ex37 rx37 => ?_)
        refine lv_istore (lv' := [(4, .int (xJ x37)), (3, .int (xJ t0_58)), (0, .ref (h0 + 268)), (1, .int (xJ n)), (2, .int (xJ x))]) hx hb dX11_tried_145 hl (by decide) rfl (fun ls hl => ?_)
        refine lv_goto (tgt := 254) hx hb dX11_tried_147 (by decide) ?_
        exact J254 x37 H locs ls rx37 hW (lv_sub hl [2, 0] rfl)
      · refine x_tabIn (v := 2) (tgt := 150) hx hb rx c30 dX11_tried_92 (by decide) rfl (by decide) ?_
        refine x_aload_n hx hb hl 1 rfl dX11_tried_150 rfl ?_
        refine x_get (j := 0) (v := .ref (h0 + 269)) hx hb hown hT hE hW cls_X11 (Or.inl (by decide)) (so_268 h0 g _) (by decide) rfl wq1185 dX11_tried_151 ?_
        refine x_bipush hx hb dX11_tried_154 (by decide) ?_
        refine x_iald hx hb hE hW (Or.inl (by decide)) (sa_269 h0 g _) ⟨by decide, by decide⟩ (by decide) dX11_tried_156 ?_
        refine x_rd hW (fun x38 ex38 rx38 => ?_)
        refine x_aload_n hx hb hl 1 rfl dX11_tried_157 rfl ?_
        refine x_get (j := 0) (v := .ref (h0 + 269)) hx hb hown hT hE hW cls_X11 (Or.inl (by decide)) (so_268 h0 g _) (by decide) rfl wq1185 dX11_tried_158 ?_
        refine x_bipush hx hb dX11_tried_161 (by decide) ?_
        refine x_iald hx hb hE hW (Or.inl (by decide)) (sa_269 h0 g _) ⟨by decide, by decide⟩ (by decide) dX11_tried_163 ?_
        refine x_rd hW (fun x39 ex39 rx39 => ?_)
        refine lv_iand hx hb dX11_tried_164 ?_
        refine x_any (fun x40 rx40 => ?_)
        refine x_goi (x_runS (As := [.int (xJ x40)]) hx hb hml hown hT hE hW hl.1 cf_X11_bits wq1650 wq1649 (c_X11_bits l D g T h0 s18 hW.2.1 x40 rx40) ⟨rfl, rfl, ⟨by decide, by decide⟩, ⟨by decide, by decide⟩⟩ rfl rfl (Nat.le_of_ble_eq_true rfl) dX11_tried_165) hW (fun x41 s42 H locs rx41 hp43 hW => ?_)
        obtain ⟨es42, hp43⟩ := hp43
        subst es42
        have ghp43 := hp43
        refine lv_istore (lv' := [(4, .int (xJ x41)), (3, .int (xJ t0_58)), (0, .ref (h0 + 268)), (1, .int (xJ n)), (2, .int (xJ x))]) hx hb dX11_tried_168 hl (by decide) rfl (fun ls hl => ?_)
        refine lv_goto (tgt := 254) hx hb dX11_tried_170 (by decide) ?_
        exact J254 x41 H locs ls rx41 hW (lv_sub hl [2, 0] rfl)
      · refine x_tabIn (v := 3) (tgt := 173) hx hb rx c30 dX11_tried_92 (by decide) rfl (by decide) ?_
        refine x_aload_n hx hb hl 1 rfl dX11_tried_173 rfl ?_
        refine x_get (j := 43) (v := .int (xJ (s18 268 43))) hx hb hown hT hE hW cls_X11 (Or.inl (by decide)) (so_268 h0 g _) (by decide) rfl wq1228 dX11_tried_174 ?_
        refine x_rd hW (fun x44 ex44 rx44 => ?_)
        refine lv_istore (lv' := [(4, .int (xJ x44)), (3, .int (xJ t0_58)), (0, .ref (h0 + 268)), (1, .int (xJ n)), (2, .int (xJ x))]) hx hb dX11_tried_177 hl (by decide) rfl (fun ls hl => ?_)
        refine lv_goto (tgt := 254) hx hb dX11_tried_179 (by decide) ?_
        exact J254 x44 H locs ls rx44 hW (lv_sub hl [2, 0] rfl)
      · refine x_tabIn (v := 4) (tgt := 182) hx hb rx c30 dX11_tried_92 (by decide) rfl (by decide) ?_
        refine x_aload_n hx hb hl 1 rfl dX11_tried_182 rfl ?_
        refine x_get (j := 44) (v := .int (xJ (s18 268 44))) hx hb hown hT hE hW cls_X11 (Or.inl (by decide)) (so_268 h0 g _) (by decide) rfl wq1229 dX11_tried_183 ?_
        refine x_rd hW (fun x45 ex45 rx45 => ?_)
        refine lv_istore (lv' := [(4, .int (xJ x45)), (3, .int (xJ t0_58)), (0, .ref (h0 + 268)), (1, .int (xJ n)), (2, .int (xJ x))]) hx hb dX11_tried_186 hl (by decide) rfl (fun ls hl => ?_)
        refine lv_goto (tgt := 254) hx hb dX11_tried_188 (by decide) ?_
        exact J254 x45 H locs ls rx45 hW (lv_sub hl [2, 0] rfl)
      · refine x_tabIn (v := 5) (tgt := 191) hx hb rx c30 dX11_tried_92 (by decide) rfl (by decide) ?_
        refine x_aload_n hx hb hl 1 rfl dX11_tried_191 rfl ?_
        refine x_goi (x_runV (As := []) hx hb hml hown hT hE hW hl.1 (Or.inl (by decide)) (so_268 h0 g _) rfl cf_X11_freeMany wq1654 wq152 wq1652 (c_X11_freeMany l D g T h0 s18 hW.2.1 hp19.1.1 hp19.1.2.1 hp19.1.2.2.1) ⟨rfl, rfl, ⟨by decide, by decide⟩, ⟨by decide, by decide⟩⟩ rfl rfl (Nat.le_of_ble_eq_true rfl) dX11_tried_192) hW (fun x46 s47 H locs rx46 hp48 hW => ?_)
        obtain ⟨es47, hp48⟩ := hp48
        subst es47
        have ghp48 := hp48
        refine lv_istore (lv' := [(4, .int (xJ x46)), (3, .int (xJ t0_58)), (0, .ref (h0 + 268)), (1, .int (xJ n)), (2, .int (xJ x))]) hx hb dX11_tried_195 hl (by decide) rfl (fun ls hl => ?_)
        refine lv_goto (tgt := 254) hx hb dX11_tried_197 (by decide) ?_
        exact J254 x46 H locs ls rx46 hW (lv_sub hl [2, 0] rfl)
    refine x_iconst hx hb dX11_tried_73 ?_
    rw [eQ]
    exact x_iret hx hb hr hlk hW (by decide) ⟨hF, ⟨p0, p1, p2, k268_8, k268_58, k269_37, trivial⟩, trivial⟩ dX11_tried_74
  refine x_if_ne (tgt := 53) hx hb rx1 dX11_tried_6 (by decide) (fun c49 => ?_) (fun c49 => ?_)
  · skip
    refine x_iconst hx hb dX11_tried_53 ?_
    refine lv_goto (tgt := 58) hx hb dX11_tried_54 (by decide) ?_
    exact J58 1 H locs ls (by decide) (by omega) hW (lv_sub hl [0, 1, 2] rfl)
  refine x_iload_n hx hb hl 2 rfl dX11_tried_9 rfl ?_
  refine x_bipush hx hb dX11_tried_10 (by decide) ?_
  refine x_bipush hx hb dX11_tried_12 (by decide) ?_
  refine x_goi (x_runS (As := [.int (xJ x), .int (xJ 10), .int (xJ 29)]) hx hb hml hown hT hE hW hl.1 cf_X11_in wq1383 wq1382 (c_X11_in l D g T h0 s0 hW.2.1 x rx 10 (by decide) 29 (by decide)) ⟨rfl, rfl, ⟨by decide, by decide⟩, ⟨by decide, by decide⟩⟩ rfl rfl (Nat.le_of_ble_eq_true rfl) dX11_tried_14) hW (fun x50 s51 H locs rx50 hp52 hW => ?_)
  obtain ⟨es51, hp52⟩ := hp52
  subst es51
  have ghp52 := hp52
  refine x_if_eq (tgt := 31) hx hb rx50 dX11_tried_17 (by decide) (fun c53 => ?_) (fun c53 => ?_)
  · skip
    refine x_iload_n hx hb hl 2 rfl dX11_tried_31 rfl ?_
    refine x_bipush hx hb dX11_tried_32 (by decide) ?_
    refine x_bipush hx hb dX11_tried_34 (by decide) ?_
    refine x_goi (x_runS (As := [.int (xJ x), .int (xJ 30), .int (xJ 31)]) hx hb hml hown hT hE hW hl.1 cf_X11_in wq1383 wq1382 (c_X11_in l D g T h0 s0 hW.2.1 x rx 30 (by decide) 31 (by decide)) ⟨rfl, rfl, ⟨by decide, by decide⟩, ⟨by decide, by decide⟩⟩ rfl rfl (Nat.le_of_ble_eq_true rfl) dX11_tried_36) hW (fun x54 s55 H locs rx54 hp56 hW => ?_)
    obtain ⟨es55, hp56⟩ := hp56
    subst es55
    have ghp56 := hp56
    refine x_if_eq (tgt := 57) hx hb rx54 dX11_tried_39 (by decide) (fun c57 => ?_) (fun c57 => ?_)
    · skip
      refine x_iconst hx hb dX11_tried_57 ?_
      exact J58 0 H locs ls (by decide) (by omega) hW (lv_sub hl [0, 1, 2] rfl)
    refine x_aload_n hx hb hl 0 rfl dX11_tried_42 rfl ?_
    refine x_iload_n hx hb hl 2 rfl dX11_tried_43 rfl ?_
    refine x_bipush hx hb dX11_tried_44 (by decide) ?_
    refine x_isub hx hb dX11_tried_46 ?_
    refine x_goi (x_runV (As := [.int (xJ (x - 30))]) hx hb hml hown hT hE hW hl.1 (Or.inl (by decide)) (so_268 h0 g _) rfl cf_X11_isJudge wq1409 wq109 wq1407 (c_X11_isJudge l D g T h0 s0 hW.2.1 (x - 30) (by omega) p0 p1 p2) ⟨rfl, rfl, ⟨by decide, by decide⟩, ⟨by decide, by decide⟩⟩ rfl rfl (Nat.le_of_ble_eq_true rfl) dX11_tried_47) hW (fun x58 s59 H locs rx58 hp60 hW => ?_)
    obtain ⟨es59, hp60⟩ := hp60
    subst es59
    have ghp60 := hp60
    refine x_if_eq (tgt := 57) hx hb rx58 dX11_tried_50 (by decide) (fun c61 => ?_) (fun c61 => ?_)
    · skip
      refine x_iconst hx hb dX11_tried_57 ?_
      exact J58 0 H locs ls (by decide) (by omega) hW (lv_sub hl [0, 1, 2] rfl)
    refine x_iconst hx hb dX11_tried_53 ?_
    refine lv_goto (tgt := 58) hx hb dX11_tried_54 (by decide) ?_
    exact J58 1 H locs ls (by decide) (by omega) hW (lv_sub hl [0, 1, 2] rfl)
  refine x_aload_n hx hb hl 0 rfl dX11_tried_20 rfl ?_
  refine x_iload_n hx hb hl 2 rfl dX11_tried_21 rfl ?_
  refine x_bipush hx hb dX11_tried_22 (by decide) ?_
  refine x_irem hx hb rx (by decide) (by omega) (by decide) dX11_tried_24 ?_
  refine x_goi (x_runV (As := [.int (xJ (x % 10))]) hx hb hml hown hT hE hW hl.1 (Or.inl (by decide)) (so_268 h0 g _) rfl cf_X11_isFelon wq1423 wq111 wq1421 (c_X11_isFelon l D g T h0 s0 hW.2.1 (x % 10) (by omega) p0 p1 p2) ⟨rfl, rfl, ⟨by decide, by decide⟩, ⟨by decide, by decide⟩⟩ rfl rfl (Nat.le_of_ble_eq_true rfl) dX11_tried_25) hW (fun x62 s63 H locs rx62 hp64 hW => ?_)
  obtain ⟨es63, hp64⟩ := hp64
  subst es63
  have ghp64 := hp64
  refine x_if_ne (tgt := 53) hx hb rx62 dX11_tried_28 (by decide) (fun c65 => ?_) (fun c65 => ?_)
  · skip
    refine x_iconst hx hb dX11_tried_53 ?_
    refine lv_goto (tgt := 58) hx hb dX11_tried_54 (by decide) ?_
    exact J58 1 H locs ls (by decide) (by omega) hW (lv_sub hl [0, 1, 2] rfl)
  refine x_iload_n hx hb hl 2 rfl dX11_tried_31 rfl ?_
  refine x_bipush hx hb dX11_tried_32 (by decide) ?_
  refine x_bipush hx hb dX11_tried_34 (by decide) ?_
  refine x_goi (x_runS (As := [.int (xJ x), .int (xJ 30), .int (xJ 31)]) hx hb hml hown hT hE hW hl.1 cf_X11_in wq1383 wq1382 (c_X11_in l D g T h0 s0 hW.2.1 x rx 30 (by decide) 31 (by decide)) ⟨rfl, rfl, ⟨by decide, by decide⟩, ⟨by decide, by decide⟩⟩ rfl rfl (Nat.le_of_ble_eq_true rfl) dX11_tried_36) hW (fun x66 s67 H locs rx66 hp68 hW => ?_)
  obtain ⟨es67, hp68⟩ := hp68
  subst es67
  have ghp68 := hp68
  refine x_if_eq (tgt := 57) hx hb rx66 dX11_tried_39 (by decide) (fun c69 => ?_) (fun c69 => ?_)
  · skip
    refine x_iconst hx hb dX11_tried_57 ?_
    exact J58 0 H locs ls (by decide) (by omega) hW (lv_sub hl [0, 1, 2] rfl)
  refine x_aload_n hx hb hl 0 rfl dX11_tried_42 rfl ?_
  refine x_iload_n hx hb hl 2 rfl dX11_tried_43 rfl ?_
  refine x_bipush hx hb dX11_tried_44 (by decide) ?_
  refine x_isub hx hb dX11_tried_46 ?_
  refine x_goi (x_runV (As := [.int (xJ (x - 30))]) hx hb hml hown hT hE hW hl.1 (Or.inl (by decide)) (so_268 h0 g _) rfl cf_X11_isJudge wq1409 wq109 wq1407 (c_X11_isJudge l D g T h0 s0 hW.2.1 (x - 30) (by omega) p0 p1 p2) ⟨rfl, rfl, ⟨by decide, by decide⟩, ⟨by decide, by decide⟩⟩ rfl rfl (Nat.le_of_ble_eq_true rfl) dX11_tried_47) hW (fun x70 s71 H locs rx70 hp72 hW => ?_)
  obtain ⟨es71, hp72⟩ := hp72
  subst es71
  have ghp72 := hp72
  refine x_if_eq (tgt := 57) hx hb rx70 dX11_tried_50 (by decide) (fun c73 => ?_) (fun c73 => ?_)
  · skip
    refine x_iconst hx hb dX11_tried_57 ?_
    exact J58 0 H locs ls (by decide) (by omega) hW (lv_sub hl [0, 1, 2] rfl)
  refine x_iconst hx hb dX11_tried_53 ?_
  refine lv_goto (tgt := 58) hx hb dX11_tried_54 (by decide) ?_
  exact J58 1 H locs ls (by decide) (by omega) hW (lv_sub hl [0, 1, 2] rfl)
set_option maxHeartbeats 4000000 in
set_option maxRecDepth 100000 in
theorem c_X11_fewestM (l : Launch) (D : va_G) (g : xG) (T : Nat × Nat × Nat) (h0 : Nat) (s0 : xS) (hσ : xRR s0) (f : Int) (rf : xR f) (n : Int) (rn : xR n) (q : Int) (rq : xR q) (p0 : IMn s0) (p1 : IMk s0) (p2 : IMo s0) : Met l yX11_fewest (xws yX11_fewest cX11_fewest 6 (some .int)) { frames := 5, cells := 0, slots := 0, locals := 115 } (xP [.ref (h0 + 268), .int (xJ f), .int (xJ n), .int (xJ q)] D g T h0 s0) (xQi D g h0 (fun r τ => xFr (fun k => k = 269 ∨ k = 270 ∨ k = 293 ∨ k = 294 ∨ k = 295 ∨ k = 296 ∨ k = 302 ∨ k = 303 ∨ k = 304) s0 τ ∧ (((IMn τ) ∧ (IMk τ) ∧ (IMo τ) ∧ (τ 269 37 = s0 269 37) ∧ True) ∧ (True)))) 0 0 (xA h0) := by
  refine x_met hσ (by decide) (Nat.le_of_ble_eq_true rfl) ?_
  intro p e s m args below meth c hx hb hr hml hown hT hlk hnm hE hW ls hl
  have hl : lv_has ls 6 [(0, .ref (h0 + 268)), (1, .int (xJ f)), (2, .int (xJ n)), (3, .int (xJ q))] := hl
  obtain ⟨Q, eQ⟩ : ∃ Q, Q = MQ below (xQi D g h0 (fun r τ => xFr (fun k => k = 269 ∨ k = 270 ∨ k = 293 ∨ k = 294 ∨ k = 295 ∨ k = 296 ∨ k = 302 ∨ k = 303 ∨ k = 304) s0 τ ∧ (((IMn τ) ∧ (IMk τ) ∧ (IMo τ) ∧ (τ 269 37 = s0 269 37) ∧ True) ∧ (True)))) args s 0 0 (xA h0) := ⟨_, rfl⟩
  rw [← eQ]
  generalize hHe : ([] : List Loc) = locs at hW ⊢
  obtain ⟨H, eH⟩ : ∃ H, H = s.heap := ⟨_, rfl⟩
  rw [← eH] at hW ⊢
  have hF : xFr (fun k => k = 269 ∨ k = 270 ∨ k = 293 ∨ k = 294 ∨ k = 295 ∨ k = 296 ∨ k = 302 ∨ k = 303 ∨ k = 304) s0 s0 := xFr.rf
  have k268_8 : s0 268 8 = s0 268 8 := rfl
  have k268_58 : s0 268 58 = s0 268 58 := rfl
  have k269_37 : s0 269 37 = s0 269 37 := rfl
  refine x_aload_n hx hb hl 0 rfl dX11_fewest_0 rfl ?_
  refine x_iload_n hx hb hl 1 rfl dX11_fewest_1 rfl ?_
  refine x_goi (x_runV (As := [.int (xJ f)]) hx hb hml hown hT hE hW hl.1 (Or.inl (by decide)) (so_268 h0 g _) rfl cf_X11_isFelon wq1423 wq111 wq1421 (c_X11_isFelon l D g T h0 s0 hW.2.1 f rf p0 p1 p2) ⟨rfl, rfl, ⟨by decide, by decide⟩, ⟨by decide, by decide⟩⟩ rfl rfl (Nat.le_of_ble_eq_true rfl) dX11_fewest_2) hW (fun x1 s2 H locs rx1 hp3 hW => ?_)
  obtain ⟨es2, hp3⟩ := hp3
  subst es2
  have ghp3 := hp3
  refine x_if_eq (tgt := 27) hx hb rx1 dX11_fewest_5 (by decide) (fun c4 => ?_) (fun c4 => ?_)
  · skip
    refine x_iconst hx hb dX11_fewest_27 ?_
    rw [eQ]
    exact x_iret hx hb hr hlk hW (by decide) ⟨hF, ⟨p0, p1, p2, k269_37, trivial⟩, trivial⟩ dX11_fewest_28
  refine x_iload_n hx hb hl 2 rfl dX11_fewest_8 rfl ?_
  refine x_iconst hx hb dX11_fewest_9 ?_
  refine x_bipush hx hb dX11_fewest_10 (by decide) ?_
  refine x_goi (x_runS (As := [.int (xJ n), .int (xJ 1), .int (xJ 30)]) hx hb hml hown hT hE hW hl.1 cf_X11_in wq1383 wq1382 (c_X11_in l D g T h0 s0 hW.2.1 n rn 1 (by decide) 30 (by decide)) ⟨rfl, rfl, ⟨by decide, by decide⟩, ⟨by decide, by decide⟩⟩ rfl rfl (Nat.le_of_ble_eq_true rfl) dX11_fewest_12) hW (fun x5 s6 H locs rx5 hp7 hW => ?_)
  obtain ⟨es6, hp7⟩ := hp7
  subst es6
  have ghp7 := hp7
  refine x_if_eq (tgt := 27) hx hb rx5 dX11_fewest_15 (by decide) (fun c8 => ?_) (fun c8 => ?_)
  · skip
    refine x_iconst hx hb dX11_fewest_27 ?_
    rw [eQ]
    exact x_iret hx hb hr hlk hW (by decide) ⟨hF, ⟨p0, p1, p2, k269_37, trivial⟩, trivial⟩ dX11_fewest_28
  refine x_iload_n hx hb hl 3 rfl dX11_fewest_18 rfl ?_
  refine x_iconst hx hb dX11_fewest_19 ?_
  refine x_iload_n hx hb hl 2 rfl dX11_fewest_20 rfl ?_
  refine x_goi (x_runS (As := [.int (xJ q), .int (xJ 1), .int (xJ n)]) hx hb hml hown hT hE hW hl.1 cf_X11_in wq1383 wq1382 (c_X11_in l D g T h0 s0 hW.2.1 q rq 1 (by decide) n rn) ⟨rfl, rfl, ⟨by decide, by decide⟩, ⟨by decide, by decide⟩⟩ rfl rfl (Nat.le_of_ble_eq_true rfl) dX11_fewest_21) hW (fun x9 s10 H locs rx9 hp11 hW => ?_)
  obtain ⟨es10, hp11⟩ := hp11
  subst es10
  have ghp11 := hp11
  refine x_if_ne (tgt := 29) hx hb rx9 dX11_fewest_24 (by decide) (fun c12 => ?_) (fun c12 => ?_)
  · skip
    refine x_aload_n hx hb hl 0 rfl dX11_fewest_29 rfl ?_
    refine x_get (j := 0) (v := .ref (h0 + 269)) hx hb hown hT hE hW cls_X11 (Or.inl (by decide)) (so_268 h0 g _) (by decide) rfl wq1185 dX11_fewest_30 ?_
    refine x_aload_n hx hb hl 0 rfl dX11_fewest_33 rfl ?_
    refine x_get (j := 1) (v := .ref (h0 + 270)) hx hb hown hT hE hW cls_X11 (Or.inl (by decide)) (so_268 h0 g _) (by decide) rfl wq1186 dX11_fewest_34 ?_
    refine x_gov (x_runS (As := [.ref (h0 + 269), .ref (h0 + 270)]) hx hb hml hown hT hE hW hl.1 cf_X11_copies wq1647 wq1646 (c_X11_copiesMA l D g T h0 s0 hW.2.1 p0 p1 p2) ⟨rfl, rfl, ⟨by decide, by decide⟩, ⟨by decide, by decide⟩⟩ rfl rfl (Nat.le_of_ble_eq_true rfl) dX11_fewest_37) hW (fun s14 H locs hp15 hW => ?_)
    obtain ⟨fs14, hp15⟩ := hp15
    have hF16 := hF.call fs14 (fun k h => by omega)
    have q17 : s14 268 8 = s0 268 8 := (congrFun (fs14 _ (by omega)) _).trans k268_8
    have q18 : s14 268 58 = s0 268 58 := (congrFun (fs14 _ (by omega)) _).trans k268_58
    have q19 : s14 269 37 = s0 269 37 := (congrFun (fs14 _ (by omega)) _).trans k269_37
    have ghp15 := hp15.2
    have q20 : s14 270 37 = s0 269 37 := (ghp15 37 (by decide) (by decide)).trans ((congrFun (fs14 269 (by omega)) 37).symm.trans q19)
    refine x_aload_n hx hb hl 0 rfl dX11_fewest_40 rfl ?_
    refine x_gov (x_runV (As := []) hx hb hml hown hT hE hW hl.1 (Or.inl (by decide)) (so_268 h0 g _) rfl cf_X11_laysSteps wq1685 wq155 wq1683 (c_X11_laysSteps l D g T h0 s14 hW.2.1 hp15.1.1 hp15.1.2.1 hp15.1.2.2.1) ⟨rfl, rfl, ⟨by decide, by decide⟩, ⟨by decide, by decide⟩⟩ rfl rfl (Nat.le_of_ble_eq_true rfl) dX11_fewest_41) hW (fun s22 H locs hp23 hW => ?_)
    obtain ⟨fs22, hp23⟩ := hp23
    have hF24 := hF16.call fs22 (fun k h => by omega)
    have q25 : s22 268 8 = s0 268 8 := (congrFun (fs22 _ (by omega)) _).trans q17
    have q26 : s22 268 58 = s0 268 58 := (congrFun (fs22 _ (by omega)) _).trans q18
    have q27 : s22 269 37 = s0 269 37 := (congrFun (fs22 _ (by omega)) _).trans q19
    have q28 : s22 270 37 = s0 269 37 := (congrFun (fs22 _ (by omega)) _).trans q20
    have ghp23 := hp23.2
    refine x_iconst hx hb dX11_fewest_44 ?_
    refine lv_istore (lv' := [(4, .int (xJ 0)), (0, .ref (h0 + 268)), (1, .int (xJ f)), (2, .int (xJ n)), (3, .int (xJ q))]) hx hb dX11_fewest_45 hl (by decide) rfl (fun ls hl => ?_)
    have L47 : ∀ (fu : Nat) (i4_47 : Int) (s_47 : xS) (H : Heap) (locs : List Loc) (ls : Array Slot), (xR i4_47) → (xFr (fun k => k = 269 ∨ k = 270 ∨ k = 293 ∨ k = 294 ∨ k = 295 ∨ k = 296 ∨ k = 302 ∨ k = 303 ∨ k = 304) s0 s_47) → (s_47 268 8 = s0 268 8) → (s_47 268 58 = s0 268 58) → (s_47 269 37 = s0 269 37) → (s_47 270 37 = s0 269 37) → (IMn s_47) → (IMk s_47) → (IMo s_47) → (0 ≤ i4_47) → (i4_47 ≤ 3100) → (3100 + 1 - i4_47).toNat < fu → xW D g h0 s H locs s_47 → lv_has ls 6 [(0, .ref (h0 + 268)), (1, .int (xJ f)), (2, .int (xJ n)), (3, .int (xJ q)), (4, .int (xJ i4_47))] → W p l e { frames := 5, cells := 0, slots := 0, locals := 115 } s m args below meth c H locs 0 0 Q (F0 m 47 ls []) := by
      intro fu
      induction fu with
      | zero => intro i4_47 s_47 H locs ls ri4_47 hF_47 q47_0 q47_1 q47_2 q47_3 q47_4 q47_5 q47_6 v47_0 v47_1 hm; exact absurd hm (Nat.not_lt_zero _)
      | succ fu ih47 =>
        intro i4_47 s_47 H locs ls ri4_47 hF_47 q47_0 q47_1 q47_2 q47_3 q47_4 q47_5 q47_6 v47_0 v47_1 hm hW hl
        refine x_iload hx hb hl 4 rfl dX11_fewest_47 ?_
        refine x_sipush hx hb dX11_fewest_49 (by decide) ?_
        refine x_icmp_ge (tgt := 91) hx hb ri4_47 (by decide) dX11_fewest_52 (by decide) (fun c29 => ?_) (fun c29 => ?_)
        · skip
          refine x_iconst hx hb dX11_fewest_91 ?_
          refine lv_istore (lv' := [(4, .int (xJ 0)), (0, .ref (h0 + 268)), (1, .int (xJ f)), (2, .int (xJ n)), (3, .int (xJ q))]) hx hb dX11_fewest_92 hl (by decide) rfl (fun ls hl => ?_)
          have L94 : ∀ (fu : Nat) (i4_94 : Int) (s_94 : xS) (H : Heap) (locs : List Loc) (ls : Array Slot), (xR i4_94) → (xFr (fun k => k = 269 ∨ k = 270 ∨ k = 293 ∨ k = 294 ∨ k = 295 ∨ k = 296 ∨ k = 302 ∨ k = 303 ∨ k = 304) s0 s_94) → (s_94 268 8 = s0 268 8) → (s_94 268 58 = s0 268 58) → (s_94 269 37 = s0 269 37) → (s_94 270 37 = s0 269 37) → (IMn s_94) → (IMk s_94) → (IMo s_94) → (0 ≤ i4_94) → (n + 1 - i4_94).toNat < fu → xW D g h0 s H locs s_94 → lv_has ls 6 [(0, .ref (h0 + 268)), (2, .int (xJ n)), (3, .int (xJ q)), (4, .int (xJ i4_94))] → W p l e { frames := 5, cells := 0, slots := 0, locals := 115 } s m args below meth c H locs 0 0 Q (F0 m 94 ls []) := by
            intro fu
            induction fu with
            | zero => intro i4_94 s_94 H locs ls ri4_94 hF_94 q94_0 q94_1 q94_2 q94_3 q94_4 q94_5 q94_6 v94_0 hm; exact absurd hm (Nat.not_lt_zero _)
            | succ fu ih94 =>
              intro i4_94 s_94 H locs ls ri4_94 hF_94 q94_0 q94_1 q94_2 q94_3 q94_4 q94_5 q94_6 v94_0 hm hW hl
              refine x_iload hx hb hl 3 rfl dX11_fewest_94 ?_
              refine x_iload_n hx hb hl 1 rfl dX11_fewest_96 rfl ?_
              refine x_icmp_ge (tgt := 165) hx hb ri4_94 rn dX11_fewest_97 (by decide) (fun c30 => ?_) (fun c30 => ?_)
              · skip
                refine x_aload_n hx hb hl 0 rfl dX11_fewest_165 rfl ?_
                refine x_get (j := 1) (v := .ref (h0 + 270)) hx hb hown hT hE hW cls_X11 (Or.inl (by decide)) (so_268 h0 g _) (by decide) rfl wq1186 dX11_fewest_166 ?_
                refine x_aload_n hx hb hl 0 rfl dX11_fewest_169 rfl ?_
                refine x_get (j := 0) (v := .ref (h0 + 269)) hx hb hown hT hE hW cls_X11 (Or.inl (by decide)) (so_268 h0 g _) (by decide) rfl wq1185 dX11_fewest_170 ?_
                refine x_gov (x_runS (As := [.ref (h0 + 270), .ref (h0 + 269)]) hx hb hml hown hT hE hW hl.1 cf_X11_copies wq1647 wq1646 (c_X11_copiesMB l D g T h0 s_94 hW.2.1 q94_4 q94_5 q94_6) ⟨rfl, rfl, ⟨by decide, by decide⟩, ⟨by decide, by decide⟩⟩ rfl rfl (Nat.le_of_ble_eq_true rfl) dX11_fewest_173) hW (fun s32 H locs hp33 hW => ?_)
                obtain ⟨fs32, hp33⟩ := hp33
                have hF34 := hF_94.call fs32 (fun k h => by omega)
                have q35 : s32 268 8 = s0 268 8 := (congrFun (fs32 _ (by omega)) _).trans q94_0
                have q36 : s32 268 58 = s0 268 58 := (congrFun (fs32 _ (by omega)) _).trans q94_1
                have q37 : s32 270 37 = s0 269 37 := (congrFun (fs32 _ (by omega)) _).trans q94_3
                have ghp33 := hp33.2
                have q38 : s32 269 37 = s0 269 37 := (ghp33 37 (by decide) (by decide)).trans ((congrFun (fs32 270 (by omega)) 37).symm.trans q37)
                refine lv_ldcw (v := xJ 1000000000) hx hb hown (hT _ wq1622) dX11_fewest_176 ?_
                refine lv_istore (lv' := [(4, .int (xJ 1000000000)), (0, .ref (h0 + 268)), (2, .int (xJ n)), (3, .int (xJ q))]) hx hb dX11_fewest_179 hl (by decide) rfl (fun ls hl => ?_)
                refine x_iconst hx hb dX11_fewest_181 ?_
                refine lv_istore (lv' := [(5, .int (xJ 0)), (4, .int (xJ 1000000000)), (0, .ref (h0 + 268)), (2, .int (xJ n)), (3, .int (xJ q))]) hx hb dX11_fewest_182 hl (by decide) rfl (fun ls hl => ?_)
                have L184 : ∀ (fu : Nat) (i4_184 : Int) (i5_184 : Int) (H : Heap) (locs : List Loc) (ls : Array Slot), (xR i4_184) → (xR i5_184) → (0 ≤ i5_184) → (i5_184 ≤ 100) → (100 + 1 - i5_184).toNat < fu → xW D g h0 s H locs s32 → lv_has ls 6 [(0, .ref (h0 + 268)), (3, .int (xJ q)), (4, .int (xJ i4_184)), (5, .int (xJ i5_184))] → W p l e { frames := 5, cells := 0, slots := 0, locals := 115 } s m args below meth c H locs 0 0 Q (F0 m 184 ls []) := by
                  intro fu
                  induction fu with
                  | zero => intro i4_184 i5_184 H locs ls ri4_184 ri5_184 v184_0 v184_1 hm; exact absurd hm (Nat.not_lt_zero _)
                  | succ fu ih184 =>
                    intro i4_184 i5_184 H locs ls ri4_184 ri5_184 v184_0 v184_1 hm hW hl
                    refine x_iload hx hb hl 3 rfl dX11_fewest_184 ?_
                    refine x_bipush hx hb dX11_fewest_186 (by decide) ?_
                    refine x_icmp_ge (tgt := 216) hx hb ri5_184 (by decide) dX11_fewest_188 (by decide) (fun c39 => ?_) (fun c39 => ?_)
                    · skip
                      refine x_iload hx hb hl 2 rfl dX11_fewest_216 ?_
                      refine lv_ldcw (v := xJ 1000000000) hx hb hown (hT _ wq1622) dX11_fewest_218 ?_
                      refine x_icmp_ne (tgt := 229) hx hb ri4_184 (by decide) dX11_fewest_221 (by decide) (fun c40 => ?_) (fun c40 => ?_)
                      · skip
                        refine x_iload hx hb hl 2 rfl dX11_fewest_229 ?_
                        rw [eQ]
                        exact x_iret hx hb hr hlk hW ri4_184 ⟨hF34, ⟨hp33.1.1, hp33.1.2.1, hp33.1.2.2.1, q38, trivial⟩, trivial⟩ dX11_fewest_231
                      refine x_bipush hx hb dX11_fewest_224 (by decide) ?_
                      refine lv_goto (tgt := 231) hx hb dX11_fewest_226 (by decide) ?_
                      rw [eQ]
                      exact x_iret hx hb hr hlk hW (by decide) ⟨hF34, ⟨hp33.1.1, hp33.1.2.1, hp33.1.2.2.1, q38, trivial⟩, trivial⟩ dX11_fewest_231
                    refine x_iload hx hb hl 2 rfl dX11_fewest_191 ?_
                    refine x_aload_n hx hb hl 0 rfl dX11_fewest_193 rfl ?_
                    refine x_get (j := 52) (v := .ref (h0 + 302)) hx hb hown hT hE hW cls_X11 (Or.inl (by decide)) (so_268 h0 g _) (by decide) rfl wq1237 dX11_fewest_194 ?_
                    refine x_bipush hx hb dX11_fewest_197 (by decide) ?_
                    refine x_iload hx hb hl 3 rfl dX11_fewest_199 ?_
                    refine x_imul hx hb dX11_fewest_201 ?_
                    refine x_iload_n hx hb hl 1 rfl dX11_fewest_202 rfl ?_
                    refine x_iadd hx hb dX11_fewest_203 ?_
                    refine x_iald hx hb hE hW (Or.inl (by decide)) (sa_302 h0 g _) (by omega) (by decide) dX11_fewest_204 ?_
                    refine x_rd hW (fun x41 ex41 rx41 => ?_)
                    refine x_goi (x_runS (As := [.int (xJ i4_184), .int (xJ x41)]) hx hb hml hown hT hE hW hl.1 cf_X11_min wq1640 wq1639 (c_X11_min l D g T h0 s32 hW.2.1 i4_184 ri4_184 x41 rx41) ⟨rfl, rfl, ⟨by decide, by decide⟩, ⟨by decide, by decide⟩⟩ rfl rfl (Nat.le_of_ble_eq_true rfl) dX11_fewest_205) hW (fun x42 s43 H locs rx42 hp44 hW => ?_)
                    obtain ⟨es43, hp44⟩ := hp44
                    subst es43
                    have ghp44 := hp44
                    refine lv_istore (lv' := [(4, .int (xJ x42)), (0, .ref (h0 + 268)), (3, .int (xJ q)), (5, .int (xJ i5_184))]) hx hb dX11_fewest_208 hl (by decide) rfl (fun ls hl => ?_)
                    refine x_iinc (lv' := [(5, .int (xJ (i5_184 + 1))), (4, .int (xJ x42)), (0, .ref (h0 + 268)), (3, .int (xJ q))]) hx hb hl 3 rfl dX11_fewest_210 (by decide) rfl (fun ls hl => ?_)
                    refine lv_goto (tgt := 184) hx hb dX11_fewest_213 (by decide) ?_
                    exact ih184 x42 (i5_184 + 1) H locs ls rx42 (by omega) (by omega) (by omega) (by omega) hW (lv_sub hl [2, 3, 1, 0] rfl)
                exact L184 ((100 + 1 - 0 : Int).toNat + 1) 1000000000 0 H locs ls (by decide) (by decide) (by omega) (by omega) (Nat.lt_succ_self _) hW (lv_sub hl [2, 4, 1, 0] rfl)
              refine x_aload_n hx hb hl 0 rfl dX11_fewest_100 rfl ?_
              refine x_iconst hx hb dX11_fewest_101 ?_
              refine x_gov (x_runV (As := [.int (xJ 0)]) hx hb hml hown hT hE hW hl.1 (Or.inl (by decide)) (so_268 h0 g _) rfl cf_X11_walksOn wq1547 wq132 wq1545 (c_X11_walksOn l D g T h0 s_94 hW.2.1 0 (by decide) (by omega) q94_4 q94_5 q94_6) ⟨rfl, rfl, ⟨by decide, by decide⟩, ⟨by decide, by decide⟩⟩ rfl rfl (Nat.le_of_ble_eq_true rfl) dX11_fewest_102) hW (fun s46 H locs hp47 hW => ?_)
              obtain ⟨fs46, hp47⟩ := hp47
              have hF48 := hF_94.call fs46 (fun k h => by omega)
              have q49 : s46 268 8 = s0 268 8 := (congrFun (fs46 _ (by omega)) _).trans q94_0
              have q50 : s46 268 58 = s0 268 58 := (congrFun (fs46 _ (by omega)) _).trans q94_1
              have q51 : s46 270 37 = s0 269 37 := (congrFun (fs46 _ (by omega)) _).trans q94_3
              have ghp47 := hp47.2
              refine x_aload_n hx hb hl 0 rfl dX11_fewest_105 rfl ?_
              refine x_iconst hx hb dX11_fewest_106 ?_
              refine x_gov (x_runV (As := [.int (xJ 1)]) hx hb hml hown hT hE hW hl.1 (Or.inl (by decide)) (so_268 h0 g _) rfl cf_X11_walksOn wq1547 wq132 wq1545 (c_X11_walksOn l D g T h0 s46 hW.2.1 1 (by decide) (by omega) hp47.1.1 hp47.1.2.1 hp47.1.2.2.1) ⟨rfl, rfl, ⟨by decide, by decide⟩, ⟨by decide, by decide⟩⟩ rfl rfl (Nat.le_of_ble_eq_true rfl) dX11_fewest_107) hW (fun s53 H locs hp54 hW => ?_)
              obtain ⟨fs53, hp54⟩ := hp54
              have hF55 := hF48.call fs53 (fun k h => by omega)
              have q56 : s53 268 8 = s0 268 8 := (congrFun (fs53 _ (by omega)) _).trans q49
              have q57 : s53 268 58 = s0 268 58 := (congrFun (fs53 _ (by omega)) _).trans q50
              have q58 : s53 270 37 = s0 269 37 := (congrFun (fs53 _ (by omega)) _).trans q51
              have ghp54 := hp54.2
              refine x_aload_n hx hb hl 0 rfl dX11_fewest_110 rfl ?_
              refine x_gov (x_runV (As := []) hx hb hml hown hT hE hW hl.1 (Or.inl (by decide)) (so_268 h0 g _) rfl cf_X11_bares wq1592 wq140 wq1590 (c_X11_bares l D g T h0 s53 hW.2.1 hp54.1.1 hp54.1.2.1 hp54.1.2.2.1) ⟨rfl, rfl, ⟨by decide, by decide⟩, ⟨by decide, by decide⟩⟩ rfl rfl (Nat.le_of_ble_eq_true rfl) dX11_fewest_111) hW (fun s60 H locs hp61 hW => ?_)
              obtain ⟨fs60, hp61⟩ := hp61
              have hF62 := hF55.call fs60 (fun k h => by omega)
              have q63 : s60 268 8 = s0 268 8 := (congrFun (fs60 _ (by omega)) _).trans q56
              have q64 : s60 268 58 = s0 268 58 := (congrFun (fs60 _ (by omega)) _).trans q57
              have q65 : s60 270 37 = s0 269 37 := (congrFun (fs60 _ (by omega)) _).trans q58
              have q66 : s60 269 37 = s0 269 37 := (congrFun (fs60 _ (by omega)) _).trans (hp54.1.2.2.2.1.trans (hp47.1.2.2.2.1.trans q94_2))
              have ghp61 := hp61.2
              refine x_iconst hx hb dX11_fewest_114 ?_
              refine lv_istore (lv' := [(5, .int (xJ 0)), (0, .ref (h0 + 268)), (2, .int (xJ n)), (3, .int (xJ q)), (4, .int (xJ i4_94))]) hx hb dX11_fewest_115 hl (by decide) rfl (fun ls hl => ?_)
              have L117 : ∀ (fu : Nat) (i5_117 : Int) (s_117 : xS) (H : Heap) (locs : List Loc) (ls : Array Slot), (xR i5_117) → (xFr (fun k => k = 269 ∨ k = 270 ∨ k = 293 ∨ k = 294 ∨ k = 295 ∨ k = 296 ∨ k = 302 ∨ k = 303 ∨ k = 304) s0 s_117) → (s_117 268 8 = s0 268 8) → (s_117 268 58 = s0 268 58) → (s_117 270 37 = s0 269 37) → (s_117 269 37 = s0 269 37) → (IMn s_117) → (IMk s_117) → (IMo s_117) → (0 ≤ i5_117) → (i5_117 ≤ 2) → (2 + 1 - i5_117).toNat < fu → xW D g h0 s H locs s_117 → lv_has ls 6 [(0, .ref (h0 + 268)), (2, .int (xJ n)), (3, .int (xJ q)), (4, .int (xJ i4_94)), (5, .int (xJ i5_117))] → W p l e { frames := 5, cells := 0, slots := 0, locals := 115 } s m args below meth c H locs 0 0 Q (F0 m 117 ls []) := by
                intro fu
                induction fu with
                | zero => intro i5_117 s_117 H locs ls ri5_117 hF_117 q117_0 q117_1 q117_2 q117_3 q117_4 q117_5 q117_6 v117_0 v117_1 hm; exact absurd hm (Nat.not_lt_zero _)
                | succ fu ih117 =>
                  intro i5_117 s_117 H locs ls ri5_117 hF_117 q117_0 q117_1 q117_2 q117_3 q117_4 q117_5 q117_6 v117_0 v117_1 hm hW hl
                  refine x_iload hx hb hl 4 rfl dX11_fewest_117 ?_
                  refine x_iconst hx hb dX11_fewest_119 ?_
                  refine x_icmp_ge (tgt := 154) hx hb ri5_117 (by decide) dX11_fewest_120 (by decide) (fun c67 => ?_) (fun c67 => ?_)
                  · skip
                    refine x_aload_n hx hb hl 0 rfl dX11_fewest_154 rfl ?_
                    refine x_iload_n hx hb hl 2 rfl dX11_fewest_155 rfl ?_
                    refine x_gov (x_runV (As := [.int (xJ q)]) hx hb hml hown hT hE hW hl.1 (Or.inl (by decide)) (so_268 h0 g _) rfl cf_X11_goesFew wq1689 wq156 wq1687 (c_X11_goesFew l D g T h0 s_117 hW.2.1 q rq (by omega) q117_4 q117_5 q117_6) ⟨rfl, rfl, ⟨by decide, by decide⟩, ⟨by decide, by decide⟩⟩ rfl rfl (Nat.le_of_ble_eq_true rfl) dX11_fewest_156) hW (fun s69 H locs hp70 hW => ?_)
                    obtain ⟨fs69, hp70⟩ := hp70
                    have hF71 := hF_117.call fs69 (fun k h => by omega)
                    have q72 : s69 268 8 = s0 268 8 := (congrFun (fs69 _ (by omega)) _).trans q117_0
                    have q73 : s69 268 58 = s0 268 58 := (congrFun (fs69 _ (by omega)) _).trans q117_1
                    have q74 : s69 270 37 = s0 269 37 := (congrFun (fs69 _ (by omega)) _).trans q117_2
                    have q75 : s69 269 37 = s0 269 37 := (congrFun (fs69 _ (by omega)) _).trans q117_3
                    have ghp70 := hp70.2
                    refine x_iinc (lv' := [(4, .int (xJ (i4_94 + 1))), (0, .ref (h0 + 268)), (2, .int (xJ n)), (3, .int (xJ q)), (5, .int (xJ i5_117))]) hx hb hl 3 rfl dX11_fewest_159 (by decide) rfl (fun ls hl => ?_)
                    refine lv_goto (tgt := 94) hx hb dX11_fewest_162 (by decide) ?_
                    exact ih94 (i4_94 + 1) s69 H locs ls (by omega) hF71 q72 q73 q75 q74 hp70.1.1 hp70.1.2.1 hp70.1.2.2.1 (by omega) (by omega) hW (lv_sub hl [1, 2, 3, 0] rfl)
                  refine x_aload_n hx hb hl 0 rfl dX11_fewest_123 rfl ?_
                  refine x_iload hx hb hl 4 rfl dX11_fewest_124 ?_
                  refine x_goi (x_runV (As := [.int (xJ i5_117)]) hx hb hml hown hT hE hW hl.1 (Or.inl (by decide)) (so_268 h0 g _) rfl cf_X11_isJudge wq1409 wq109 wq1407 (c_X11_isJudge l D g T h0 s_117 hW.2.1 i5_117 ri5_117 q117_4 q117_5 q117_6) ⟨rfl, rfl, ⟨by decide, by decide⟩, ⟨by decide, by decide⟩⟩ rfl rfl (Nat.le_of_ble_eq_true rfl) dX11_fewest_126) hW (fun x76 s77 H locs rx76 hp78 hW => ?_)
                  obtain ⟨es77, hp78⟩ := hp78
                  subst es77
                  have ghp78 := hp78
                  refine x_if_eq (tgt := 148) hx hb rx76 dX11_fewest_129 (by decide) (fun c79 => ?_) (fun c79 => ?_)
                  · skip
                    refine x_iinc (lv' := [(5, .int (xJ (i5_117 + 1))), (0, .ref (h0 + 268)), (2, .int (xJ n)), (3, .int (xJ q)), (4, .int (xJ i4_94))]) hx hb hl 4 rfl dX11_fewest_148 (by decide) rfl (fun ls hl => ?_)
                    refine lv_goto (tgt := 117) hx hb dX11_fewest_151 (by decide) ?_
                    exact ih117 (i5_117 + 1) s_117 H locs ls (by omega) hF_117 q117_0 q117_1 q117_2 q117_3 q117_4 q117_5 q117_6 (by omega) (by omega) (by omega) hW (lv_sub hl [1, 2, 3, 4, 0] rfl)
                  refine x_aload_n hx hb hl 0 rfl dX11_fewest_132 rfl ?_
                  refine x_iload hx hb hl 4 rfl dX11_fewest_133 ?_
                  refine x_aload_n hx hb hl 0 rfl dX11_fewest_135 rfl ?_
                  refine x_get (j := 1) (v := .ref (h0 + 270)) hx hb hown hT hE hW cls_X11 (Or.inl (by decide)) (so_268 h0 g _) (by decide) rfl wq1186 dX11_fewest_136 ?_
                  refine x_bipush hx hb dX11_fewest_139 (by decide) ?_
                  refine x_iald hx hb hE hW (Or.inl (by decide)) (sa_270 h0 g _) ⟨by decide, by decide⟩ (by decide) dX11_fewest_141 ?_
                  refine x_rd hW (fun x80 ex80 rx80 => ?_)
                  have bx80 : 0 ≤ x80 ∧ x80 ≤ 9999 := by rw [ex80]; exact (IMn.n2 q117_4).2.2.2.1
                  have fx80 : x80 = s0 269 37 := ex80.trans q117_2
                  refine x_iload hx hb hl 3 rfl dX11_fewest_142 ?_
                  refine x_iadd hx hb dX11_fewest_144 ?_
                  refine x_gov (x_runV (As := [.int (xJ i5_117), .int (xJ (x80 + i4_94))]) hx hb hml hown hT hE hW hl.1 (Or.inl (by decide)) (so_268 h0 g _) rfl cf_X11_fallsOf wq1596 wq141 wq1594 (c_X11_fallsOf l D g T h0 s_117 hW.2.1 i5_117 ri5_117 (x80 + i4_94) (by omega) (by omega) q117_4 q117_5 q117_6) ⟨rfl, rfl, ⟨by decide, by decide⟩, ⟨by decide, by decide⟩⟩ rfl rfl (Nat.le_of_ble_eq_true rfl) dX11_fewest_145) hW (fun s82 H locs hp83 hW => ?_)
                  obtain ⟨fs82, hp83⟩ := hp83
                  have hF84 := hF_117.call fs82 (fun k h => by omega)
                  have q85 : s82 268 8 = s0 268 8 := (congrFun (fs82 _ (by omega)) _).trans q117_0
                  have q86 : s82 268 58 = s0 268 58 := (congrFun (fs82 _ (by omega)) _).trans q117_1
                  have q87 : s82 270 37 = s0 269 37 := (congrFun (fs82 _ (by omega)) _).trans q117_2
                  have q88 : s82 269 37 = s0 269 37 := (congrFun (fs82 _ (by omega)) _).trans q117_3
                  have ghp83 := hp83.2
                  refine x_iinc (lv' := [(5, .int (xJ (i5_117 + 1))), (0, .ref (h0 + 268)), (2, .int (xJ n)), (3, .int (xJ q)), (4, .int (xJ i4_94))]) hx hb hl 4 rfl dX11_fewest_148 (by decide) rfl (fun ls hl => ?_)
                  refine lv_goto (tgt := 117) hx hb dX11_fewest_151 (by decide) ?_
                  exact ih117 (i5_117 + 1) s82 H locs ls (by omega) hF84 q85 q86 q87 q88 hp83.1.1 hp83.1.2.1 hp83.1.2.2.1 (by omega) (by omega) (by omega) hW (lv_sub hl [1, 2, 3, 4, 0] rfl)
              exact L117 ((2 + 1 - 0 : Int).toNat + 1) 0 s60 H locs ls (by decide) hF62 q63 q64 q65 q66 hp61.1.1 hp61.1.2.1 hp61.1.2.2.1 (by omega) (by omega) (Nat.lt_succ_self _) hW (lv_sub hl [1, 2, 3, 4, 0] rfl)
          exact L94 ((n + 1 - 0 : Int).toNat + 1) 0 s_47 H locs ls (by decide) hF_47 q47_0 q47_1 q47_2 q47_3 q47_4 q47_5 q47_6 (by omega) (Nat.lt_succ_self _) hW (lv_sub hl [1, 3, 4, 0] rfl)
        refine x_aload_n hx hb hl 0 rfl dX11_fewest_55 rfl ?_
        refine x_get (j := 52) (v := .ref (h0 + 302)) hx hb hown hT hE hW cls_X11 (Or.inl (by decide)) (so_268 h0 g _) (by decide) rfl wq1237 dX11_fewest_56 ?_
        refine x_iload hx hb hl 4 rfl dX11_fewest_59 ?_
        refine x_iload hx hb hl 4 rfl dX11_fewest_61 ?_
        refine x_bipush hx hb dX11_fewest_63 (by decide) ?_
        refine x_aload_n hx hb hl 0 rfl dX11_fewest_65 rfl ?_
        refine x_get (j := 0) (v := .ref (h0 + 269)) hx hb hown hT hE hW cls_X11 (Or.inl (by decide)) (so_268 h0 g _) (by decide) rfl wq1185 dX11_fewest_66 ?_
        refine x_iconst hx hb dX11_fewest_69 ?_
        refine x_iload_n hx hb hl 1 rfl dX11_fewest_70 rfl ?_
        refine x_iadd hx hb dX11_fewest_71 ?_
        refine x_iald hx hb hE hW (Or.inl (by decide)) (sa_269 h0 g _) (by omega) (by decide) dX11_fewest_72 ?_
        refine x_rd hW (fun x89 ex89 rx89 => ?_)
        have bx89 : 0 ≤ x89 ∧ x89 ≤ 99 := by rw [ex89]; exact (IMn.n1 q47_4).2.2.1 _ (by omega) (by omega)
        refine x_imul hx hb dX11_fewest_73 ?_
        refine x_icmp_ne (tgt := 81) hx hb ri4_47 (by omega) dX11_fewest_74 (by decide) (fun c90 => ?_) (fun c90 => ?_)
        · skip
          refine lv_ldcw (v := xJ 1000000000) hx hb hown (hT _ wq1622) dX11_fewest_81 ?_
          refine x_iast hx hb hE hW (by decide) (fun σ => sa_302 h0 g σ) (by omega) (by decide) (by decide) dX11_fewest_84 (fun H locs s91 es91 hW => ?_)
          have q92 : s91 268 8 = s0 268 8 := (show s91 268 8 = s_47 268 8 from by rw [es91, xU_k _ _ _ (by omega)]).trans q47_0
          have q93 : s91 268 58 = s0 268 58 := (show s91 268 58 = s_47 268 58 from by rw [es91, xU_k _ _ _ (by omega)]).trans q47_1
          have q94 : s91 269 37 = s0 269 37 := (show s91 269 37 = s_47 269 37 from by rw [es91, xU_k _ _ _ (by omega)]).trans q47_2
          have q95 : s91 270 37 = s0 269 37 := (show s91 270 37 = s_47 270 37 from by rw [es91, xU_k _ _ _ (by omega)]).trans q47_3
          have q96 : IMn s91 := by rw [es91]; exact IMn_o (by unfold suIMn; omega) q47_4
          have q97 : IMk s91 := by rw [es91]; exact IMk_o (by unfold suIMk; omega) q47_5
          have q98 : IMo s91 := by rw [es91]; exact IMo_o (by unfold suIMo; omega) q47_6
          have hF99 := hF_47.put es91 (by omega)
          refine x_iinc (lv' := [(4, .int (xJ (i4_47 + 1))), (0, .ref (h0 + 268)), (1, .int (xJ f)), (2, .int (xJ n)), (3, .int (xJ q))]) hx hb hl 4 rfl dX11_fewest_85 (by decide) rfl (fun ls hl => ?_)
          refine lv_goto (tgt := 47) hx hb dX11_fewest_88 (by decide) ?_
          exact ih47 (i4_47 + 1) s91 H locs ls (by omega) hF99 q92 q93 q94 q95 q96 q97 q98 (by omega) (by omega) (by omega) hW (lv_sub hl [1, 2, 3, 4, 0] rfl)
        refine x_iconst hx hb dX11_fewest_77 ?_
        refine lv_goto (tgt := 84) hx hb dX11_fewest_78 (by decide) ?_
        refine x_iast hx hb hE hW (by decide) (fun σ => sa_302 h0 g σ) (by omega) (by decide) (by decide) dX11_fewest_84 (fun H locs s100 es100 hW => ?_)
        have q101 : s100 268 8 = s0 268 8 := (show s100 268 8 = s_47 268 8 from by rw [es100, xU_k _ _ _ (by omega)]).trans q47_0
        have q102 : s100 268 58 = s0 268 58 := (show s100 268 58 = s_47 268 58 from by rw [es100, xU_k _ _ _ (by omega)]).trans q47_1
        have q103 : s100 269 37 = s0 269 37 := (show s100 269 37 = s_47 269 37 from by rw [es100, xU_k _ _ _ (by omega)]).trans q47_2
        have q104 : s100 270 37 = s0 269 37 := (show s100 270 37 = s_47 270 37 from by rw [es100, xU_k _ _ _ (by omega)]).trans q47_3
        have q105 : IMn s100 := by rw [es100]; exact IMn_o (by unfold suIMn; omega) q47_4
        have q106 : IMk s100 := by rw [es100]; exact IMk_o (by unfold suIMk; omega) q47_5
        have q107 : IMo s100 := by rw [es100]; exact IMo_o (by unfold suIMo; omega) q47_6
        have hF108 := hF_47.put es100 (by omega)
        refine x_iinc (lv' := [(4, .int (xJ (i4_47 + 1))), (0, .ref (h0 + 268)), (1, .int (xJ f)), (2, .int (xJ n)), (3, .int (xJ q))]) hx hb hl 4 rfl dX11_fewest_85 (by decide) rfl (fun ls hl => ?_)
        refine lv_goto (tgt := 47) hx hb dX11_fewest_88 (by decide) ?_
        exact ih47 (i4_47 + 1) s100 H locs ls (by omega) hF108 q101 q102 q103 q104 q105 q106 q107 (by omega) (by omega) (by omega) hW (lv_sub hl [1, 2, 3, 4, 0] rfl)
    exact L47 ((3100 + 1 - 0 : Int).toNat + 1) 0 s22 H locs ls (by decide) hF24 q25 q26 q27 q28 hp23.1.1 hp23.1.2.1 hp23.1.2.2.1 (by omega) (by omega) (Nat.lt_succ_self _) hW (lv_sub hl [1, 2, 3, 4, 0] rfl)
  refine x_iconst hx hb dX11_fewest_27 ?_
  rw [eQ]
  exact x_iret hx hb hr hlk hW (by decide) ⟨hF, ⟨p0, p1, p2, k269_37, trivial⟩, trivial⟩ dX11_fewest_28
set_option maxHeartbeats 4000000 in
set_option maxRecDepth 100000 in
theorem c_X11_servedInM (l : Launch) (D : va_G) (g : xG) (T : Nat × Nat × Nat) (h0 : Nat) (s0 : xS) (hσ : xRR s0) (j : Int) (rj : xR j) (n : Int) (rn : xR n) (a : Int) (ra : xR a) (hj : 0 ≤ j ∧ j < 2) (p0 : IMn s0) (p1 : IMk s0) (p2 : IMo s0) : Met l yX11_servedIn (xws yX11_servedIn cX11_servedIn 5 (some .int)) { frames := 8, cells := 0, slots := 0, locals := 187 } (xP [.ref (h0 + 268), .int (xJ j), .int (xJ n), .int (xJ a)] D g T h0 s0) (xQi D g h0 (fun r τ => xFr (fun k => k = 268 ∨ k = 269 ∨ k = 270 ∨ k = 293 ∨ k = 294 ∨ k = 295 ∨ k = 296 ∨ k = 297 ∨ k = 298 ∨ k = 299) s0 τ ∧ (((IMn τ) ∧ (IMk τ) ∧ (IMo τ) ∧ (τ 268 8 = s0 268 8) ∧ (τ 268 58 = s0 268 58) ∧ (τ 269 37 = s0 269 37) ∧ True) ∧ (True)))) 0 0 (xA h0) := by
  refine x_met hσ (by decide) (Nat.le_of_ble_eq_true rfl) ?_
  intro p e s m args below meth c hx hb hr hml hown hT hlk hnm hE hW ls hl
  have hl : lv_has ls 5 [(0, .ref (h0 + 268)), (1, .int (xJ j)), (2, .int (xJ n)), (3, .int (xJ a))] := hl
  obtain ⟨Q, eQ⟩ : ∃ Q, Q = MQ below (xQi D g h0 (fun r τ => xFr (fun k => k = 268 ∨ k = 269 ∨ k = 270 ∨ k = 293 ∨ k = 294 ∨ k = 295 ∨ k = 296 ∨ k = 297 ∨ k = 298 ∨ k = 299) s0 τ ∧ (((IMn τ) ∧ (IMk τ) ∧ (IMo τ) ∧ (τ 268 8 = s0 268 8) ∧ (τ 268 58 = s0 268 58) ∧ (τ 269 37 = s0 269 37) ∧ True) ∧ (True)))) args s 0 0 (xA h0) := ⟨_, rfl⟩
  rw [← eQ]
  generalize hHe : ([] : List Loc) = locs at hW ⊢
  obtain ⟨H, eH⟩ : ∃ H, H = s.heap := ⟨_, rfl⟩
  rw [← eH] at hW ⊢
  have hF : xFr (fun k => k = 268 ∨ k = 269 ∨ k = 270 ∨ k = 293 ∨ k = 294 ∨ k = 295 ∨ k = 296 ∨ k = 297 ∨ k = 298 ∨ k = 299) s0 s0 := xFr.rf
  have k268_8 : s0 268 8 = s0 268 8 := rfl
  have k268_58 : s0 268 58 = s0 268 58 := rfl
  have k269_37 : s0 269 37 = s0 269 37 := rfl
  refine x_aload_n hx hb hl 0 rfl dX11_servedIn_0 rfl ?_
  refine x_get (j := 0) (v := .ref (h0 + 269)) hx hb hown hT hE hW cls_X11 (Or.inl (by decide)) (so_268 h0 g _) (by decide) rfl wq1185 dX11_servedIn_1 ?_
  refine x_aload_n hx hb hl 0 rfl dX11_servedIn_4 rfl ?_
  refine x_get (j := 1) (v := .ref (h0 + 270)) hx hb hown hT hE hW cls_X11 (Or.inl (by decide)) (so_268 h0 g _) (by decide) rfl wq1186 dX11_servedIn_5 ?_
  refine x_gov (x_runS (As := [.ref (h0 + 269), .ref (h0 + 270)]) hx hb hml hown hT hE hW hl.1 cf_X11_copies wq1647 wq1646 (c_X11_copiesMA l D g T h0 s0 hW.2.1 p0 p1 p2) ⟨rfl, rfl, ⟨by decide, by decide⟩, ⟨by decide, by decide⟩⟩ rfl rfl (Nat.le_of_ble_eq_true rfl) dX11_servedIn_8) hW (fun s2 H locs hp3 hW => ?_)
  obtain ⟨fs2, hp3⟩ := hp3
  have hF4 := hF.call fs2 (fun k h => by omega)
  have q5 : s2 268 8 = s0 268 8 := (congrFun (fs2 _ (by omega)) _).trans k268_8
  have q6 : s2 268 58 = s0 268 58 := (congrFun (fs2 _ (by omega)) _).trans k268_58
  have q7 : s2 269 37 = s0 269 37 := (congrFun (fs2 _ (by omega)) _).trans k269_37
  have ghp3 := hp3.2
  have q8 : s2 270 37 = s0 269 37 := (ghp3 37 (by decide) (by decide)).trans ((congrFun (fs2 269 (by omega)) 37).symm.trans q7)
  refine x_aload_n hx hb hl 0 rfl dX11_servedIn_11 rfl ?_
  refine x_gov (x_runV (As := []) hx hb hml hown hT hE hW hl.1 (Or.inl (by decide)) (so_268 h0 g _) rfl cf_X11_begins wq1543 wq131 wq1541 (c_X11_begins l D g T h0 s2 hW.2.1 hp3.1.1 hp3.1.2.1 hp3.1.2.2.1) ⟨rfl, rfl, ⟨by decide, by decide⟩, ⟨by decide, by decide⟩⟩ rfl rfl (Nat.le_of_ble_eq_true rfl) dX11_servedIn_12) hW (fun s10 H locs hp11 hW => ?_)
  obtain ⟨fs10, hp11⟩ := hp11
  have hF12 := hF4.call fs10 (fun k h => by omega)
  have q13 : s10 269 37 = s0 269 37 := (congrFun (fs10 _ (by omega)) _).trans q7
  have q14 : s10 270 37 = s0 269 37 := (congrFun (fs10 _ (by omega)) _).trans q8
  have ghp11 := hp11.2
  refine x_iconst hx hb dX11_servedIn_15 ?_
  refine lv_istore (lv' := [(4, .int (xJ 0)), (0, .ref (h0 + 268)), (1, .int (xJ j)), (2, .int (xJ n)), (3, .int (xJ a))]) hx hb dX11_servedIn_16 hl (by decide) rfl (fun ls hl => ?_)
  have L18 : ∀ (fu : Nat) (i4_18 : Int) (s_18 : xS) (H : Heap) (locs : List Loc) (ls : Array Slot), (xR i4_18) → (xFr (fun k => k = 268 ∨ k = 269 ∨ k = 270 ∨ k = 293 ∨ k = 294 ∨ k = 295 ∨ k = 296 ∨ k = 297 ∨ k = 298 ∨ k = 299) s0 s_18) → (s_18 270 37 = s0 269 37) → (IMn s_18) → (IMk s_18) → (IMo s_18) → (s_18 268 8 = s0 268 8) → (s_18 268 58 = s0 268 58) → (0 ≤ i4_18) → (n + 1 - i4_18).toNat < fu → xW D g h0 s H locs s_18 → lv_has ls 5 [(0, .ref (h0 + 268)), (1, .int (xJ j)), (2, .int (xJ n)), (3, .int (xJ a)), (4, .int (xJ i4_18))] → W p l e { frames := 8, cells := 0, slots := 0, locals := 187 } s m args below meth c H locs 0 0 Q (F0 m 18 ls []) := by
    intro fu
    induction fu with
    | zero => intro i4_18 s_18 H locs ls ri4_18 hF_18 q18_1 q18_2 q18_3 q18_4 q18_5 q18_6 v18_0 hm; exact absurd hm (Nat.not_lt_zero _)
    | succ fu ih18 =>
      intro i4_18 s_18 H locs ls ri4_18 hF_18 q18_1 q18_2 q18_3 q18_4 q18_5 q18_6 v18_0 hm hW hl
      refine x_iload hx hb hl 4 rfl dX11_servedIn_18 ?_
      refine x_iload_n hx hb hl 2 rfl dX11_servedIn_20 rfl ?_
      refine x_icmp_ge (tgt := 87) hx hb ri4_18 rn dX11_servedIn_21 (by decide) (fun c15 => ?_) (fun c15 => ?_)
      · skip
        refine x_aload_n hx hb hl 0 rfl dX11_servedIn_87 rfl ?_
        refine x_get (j := 1) (v := .ref (h0 + 270)) hx hb hown hT hE hW cls_X11 (Or.inl (by decide)) (so_268 h0 g _) (by decide) rfl wq1186 dX11_servedIn_88 ?_
        refine x_aload_n hx hb hl 0 rfl dX11_servedIn_91 rfl ?_
        refine x_get (j := 0) (v := .ref (h0 + 269)) hx hb hown hT hE hW cls_X11 (Or.inl (by decide)) (so_268 h0 g _) (by decide) rfl wq1185 dX11_servedIn_92 ?_
        refine x_gov (x_runS (As := [.ref (h0 + 270), .ref (h0 + 269)]) hx hb hml hown hT hE hW hl.1 cf_X11_copies wq1647 wq1646 (c_X11_copiesMB l D g T h0 s_18 hW.2.1 q18_2 q18_3 q18_4) ⟨rfl, rfl, ⟨by decide, by decide⟩, ⟨by decide, by decide⟩⟩ rfl rfl (Nat.le_of_ble_eq_true rfl) dX11_servedIn_95) hW (fun s17 H locs hp18 hW => ?_)
        obtain ⟨fs17, hp18⟩ := hp18
        have hF19 := hF_18.call fs17 (fun k h => by omega)
        have q20 : s17 270 37 = s0 269 37 := (congrFun (fs17 _ (by omega)) _).trans q18_1
        have q21 : s17 268 8 = s0 268 8 := (congrFun (fs17 _ (by omega)) _).trans q18_5
        have q22 : s17 268 58 = s0 268 58 := (congrFun (fs17 _ (by omega)) _).trans q18_6
        have ghp18 := hp18.2
        have q23 : s17 269 37 = s0 269 37 := (ghp18 37 (by decide) (by decide)).trans ((congrFun (fs17 270 (by omega)) 37).symm.trans q20)
        refine x_aload_n hx hb hl 0 rfl dX11_servedIn_98 rfl ?_
        refine x_get (j := 41) (v := .int (xJ (s17 268 41))) hx hb hown hT hE hW cls_X11 (Or.inl (by decide)) (so_268 h0 g _) (by decide) rfl wq1226 dX11_servedIn_99 ?_
        refine x_rd hW (fun x24 ex24 rx24 => ?_)
        rw [eQ]
        exact x_iret hx hb hr hlk hW rx24 ⟨hF19, ⟨hp18.1.1, hp18.1.2.1, hp18.1.2.2.1, q21, q22, q23, trivial⟩, trivial⟩ dX11_servedIn_102
      refine x_aload_n hx hb hl 0 rfl dX11_servedIn_24 rfl ?_
      refine x_get (j := 0) (v := .ref (h0 + 269)) hx hb hown hT hE hW cls_X11 (Or.inl (by decide)) (so_268 h0 g _) (by decide) rfl wq1185 dX11_servedIn_25 ?_
      refine x_bipush hx hb dX11_servedIn_28 (by decide) ?_
      refine x_iald hx hb hE hW (Or.inl (by decide)) (sa_269 h0 g _) ⟨by decide, by decide⟩ (by decide) dX11_servedIn_30 ?_
      refine x_rd hW (fun x25 ex25 rx25 => ?_)
      have bx25 : 0 ≤ x25 ∧ x25 ≤ 9999 := by rw [ex25]; exact (IMn.n1 q18_2).2.2.2.1
      have q26 : s_18 269 37 = x25 := ex25.symm
      refine x_sipush hx hb dX11_servedIn_31 (by decide) ?_
      refine x_icmp_ge (tgt := 87) hx hb rx25 (by decide) dX11_servedIn_34 (by decide) (fun c27 => ?_) (fun c27 => ?_)
      · skip
        refine x_aload_n hx hb hl 0 rfl dX11_servedIn_87 rfl ?_
        refine x_get (j := 1) (v := .ref (h0 + 270)) hx hb hown hT hE hW cls_X11 (Or.inl (by decide)) (so_268 h0 g _) (by decide) rfl wq1186 dX11_servedIn_88 ?_
        refine x_aload_n hx hb hl 0 rfl dX11_servedIn_91 rfl ?_
        refine x_get (j := 0) (v := .ref (h0 + 269)) hx hb hown hT hE hW cls_X11 (Or.inl (by decide)) (so_268 h0 g _) (by decide) rfl wq1185 dX11_servedIn_92 ?_
        refine x_gov (x_runS (As := [.ref (h0 + 270), .ref (h0 + 269)]) hx hb hml hown hT hE hW hl.1 cf_X11_copies wq1647 wq1646 (c_X11_copiesMB l D g T h0 s_18 hW.2.1 q18_2 q18_3 q18_4) ⟨rfl, rfl, ⟨by decide, by decide⟩, ⟨by decide, by decide⟩⟩ rfl rfl (Nat.le_of_ble_eq_true rfl) dX11_servedIn_95) hW (fun s29 H locs hp30 hW => ?_)
        obtain ⟨fs29, hp30⟩ := hp30
        have hF31 := hF_18.call fs29 (fun k h => by omega)
        have q32 : s29 270 37 = s0 269 37 := (congrFun (fs29 _ (by omega)) _).trans q18_1
        have q33 : s29 268 8 = s0 268 8 := (congrFun (fs29 _ (by omega)) _).trans q18_5
        have q34 : s29 268 58 = s0 268 58 := (congrFun (fs29 _ (by omega)) _).trans q18_6
        have ghp30 := hp30.2
        have q35 : s29 269 37 = s0 269 37 := (ghp30 37 (by decide) (by decide)).trans ((congrFun (fs29 270 (by omega)) 37).symm.trans q32)
        refine x_aload_n hx hb hl 0 rfl dX11_servedIn_98 rfl ?_
        refine x_get (j := 41) (v := .int (xJ (s29 268 41))) hx hb hown hT hE hW cls_X11 (Or.inl (by decide)) (so_268 h0 g _) (by decide) rfl wq1226 dX11_servedIn_99 ?_
        refine x_rd hW (fun x36 ex36 rx36 => ?_)
        rw [eQ]
        exact x_iret hx hb hr hlk hW rx36 ⟨hF31, ⟨hp30.1.1, hp30.1.2.1, hp30.1.2.2.1, q33, q34, q35, trivial⟩, trivial⟩ dX11_servedIn_102
      refine x_iload_n hx hb hl 1 rfl dX11_servedIn_37 rfl ?_
      have J53 : ∀ (s_53 : xS) (H : Heap) (locs : List Loc) (ls : Array Slot), (xFr (fun k => k = 268 ∨ k = 269 ∨ k = 270 ∨ k = 293 ∨ k = 294 ∨ k = 295 ∨ k = 296 ∨ k = 297 ∨ k = 298 ∨ k = 299) s0 s_53) → (s_53 270 37 = s0 269 37) → (IMn s_53) → (IMk s_53) → (IMo s_53) → (s_53 268 8 = s0 268 8) → (s_53 268 58 = s0 268 58) → (s_53 269 37 = x25) → xW D g h0 s H locs s_53 → lv_has ls 5 [(0, .ref (h0 + 268)), (1, .int (xJ j)), (2, .int (xJ n)), (3, .int (xJ a)), (4, .int (xJ i4_18))] → W p l e { frames := 8, cells := 0, slots := 0, locals := 187 } s m args below meth c H locs 0 0 Q (F0 m 53 ls []) := by
        intro s_53 H locs ls hF_53 q53_0 q53_1 q53_2 q53_3 q53_4 q53_5 q53_6 hW hl
        refine x_aload_n hx hb hl 0 rfl dX11_servedIn_53 rfl ?_
        refine x_iconst hx hb dX11_servedIn_54 ?_
        refine x_iload_n hx hb hl 1 rfl dX11_servedIn_55 rfl ?_
        refine x_isub hx hb dX11_servedIn_56 ?_
        refine x_gov (x_runV (As := [.int (xJ (1 - j))]) hx hb hml hown hT hE hW hl.1 (Or.inl (by decide)) (so_268 h0 g _) rfl cf_X11_walksOn wq1547 wq132 wq1545 (c_X11_walksOn l D g T h0 s_53 hW.2.1 (1 - j) (by omega) (by omega) q53_1 q53_2 q53_3) ⟨rfl, rfl, ⟨by decide, by decide⟩, ⟨by decide, by decide⟩⟩ rfl rfl (Nat.le_of_ble_eq_true rfl) dX11_servedIn_57) hW (fun s38 H locs hp39 hW => ?_)
        obtain ⟨fs38, hp39⟩ := hp39
        have hF40 := hF_53.call fs38 (fun k h => by omega)
        have q41 : s38 270 37 = s0 269 37 := (congrFun (fs38 _ (by omega)) _).trans q53_0
        have q42 : s38 268 8 = s0 268 8 := (congrFun (fs38 _ (by omega)) _).trans q53_4
        have q43 : s38 268 58 = s0 268 58 := (congrFun (fs38 _ (by omega)) _).trans q53_5
        have ghp39 := hp39.2
        refine x_iload_n hx hb hl 1 rfl dX11_servedIn_60 rfl ?_
        refine x_iconst hx hb dX11_servedIn_61 ?_
        refine x_icmp_ne (tgt := 77) hx hb rj (by decide) dX11_servedIn_62 (by decide) (fun c44 => ?_) (fun c44 => ?_)
        · skip
          refine x_aload_n hx hb hl 0 rfl dX11_servedIn_77 rfl ?_
          refine x_gov (x_runV (As := []) hx hb hml hown hT hE hW hl.1 (Or.inl (by decide)) (so_268 h0 g _) rfl cf_X11_shadesGo wq1564 wq134 wq1562 (c_X11_shadesGo l D g T h0 s38 hW.2.1 (by have := (hp39.1.2.2.2.1.trans q53_6); omega) hp39.1.1 hp39.1.2.1 hp39.1.2.2.1) ⟨rfl, rfl, ⟨by decide, by decide⟩, ⟨by decide, by decide⟩⟩ rfl rfl (Nat.le_of_ble_eq_true rfl) dX11_servedIn_78) hW (fun s46 H locs hp47 hW => ?_)
          obtain ⟨fs46, hp47⟩ := hp47
          have hF48 := hF40.call fs46 (fun k h => by omega)
          have q49 : s46 270 37 = s0 269 37 := (congrFun (fs46 _ (by omega)) _).trans q41
          have ghp47 := hp47.2
          refine x_iinc (lv' := [(4, .int (xJ (i4_18 + 1))), (0, .ref (h0 + 268)), (1, .int (xJ j)), (2, .int (xJ n)), (3, .int (xJ a))]) hx hb hl 4 rfl dX11_servedIn_81 (by decide) rfl (fun ls hl => ?_)
          refine lv_goto (tgt := 18) hx hb dX11_servedIn_84 (by decide) ?_
          exact ih18 (i4_18 + 1) s46 H locs ls (by omega) hF48 q49 hp47.1.1 hp47.1.2.1 hp47.1.2.2.1 (hp47.1.2.2.2.1.trans q42) (hp47.1.2.2.2.2.1.trans q43) (by omega) (by omega) hW (lv_sub hl [1, 2, 3, 4, 0] rfl)
        refine x_aload_n hx hb hl 0 rfl dX11_servedIn_65 rfl ?_
        refine x_iconst hx hb dX11_servedIn_66 ?_
        refine x_iload_n hx hb hl 3 rfl dX11_servedIn_67 rfl ?_
        refine x_iload_n hx hb hl 2 rfl dX11_servedIn_68 rfl ?_
        refine x_iload hx hb hl 4 rfl dX11_servedIn_69 ?_
        refine x_goi (x_runS (As := [.int (xJ a), .int (xJ n), .int (xJ i4_18)]) hx hb hml hown hT hE hW hl.1 cf_X11_stepIn wq1700 wq1699 (c_X11_stepIn l D g T h0 s38 hW.2.1 a ra n rn i4_18 ri4_18 (by omega)) ⟨rfl, rfl, ⟨by decide, by decide⟩, ⟨by decide, by decide⟩⟩ rfl rfl (Nat.le_of_ble_eq_true rfl) dX11_servedIn_71) hW (fun x50 s51 H locs rx50 hp52 hW => ?_)
        obtain ⟨es51, hp52⟩ := hp52
        subst es51
        have ghp52 := hp52
        refine x_gov (x_runV (As := [.int (xJ 1), .int (xJ x50)]) hx hb hml hown hT hE hW hl.1 (Or.inl (by decide)) (so_268 h0 g _) rfl cf_X11_steps wq1551 wq133 wq1549 (c_X11_steps l D g T h0 s38 hW.2.1 1 (by decide) x50 rx50 (by omega) hp39.1.1 hp39.1.2.1 hp39.1.2.2.1) ⟨rfl, rfl, ⟨by decide, by decide⟩, ⟨by decide, by decide⟩⟩ rfl rfl (Nat.le_of_ble_eq_true rfl) dX11_servedIn_74) hW (fun s54 H locs hp55 hW => ?_)
        obtain ⟨fs54, hp55⟩ := hp55
        have hF56 := hF40.call fs54 (fun k h => by omega)
        have q57 : s54 270 37 = s0 269 37 := (congrFun (fs54 _ (by omega)) _).trans q41
        have q58 : s54 268 8 = s0 268 8 := (congrFun (fs54 _ (by omega)) _).trans q42
        have q59 : s54 268 58 = s0 268 58 := (congrFun (fs54 _ (by omega)) _).trans q43
        have ghp55 := hp55.2
        refine x_aload_n hx hb hl 0 rfl dX11_servedIn_77 rfl ?_
        refine x_gov (x_runV (As := []) hx hb hml hown hT hE hW hl.1 (Or.inl (by decide)) (so_268 h0 g _) rfl cf_X11_shadesGo wq1564 wq134 wq1562 (c_X11_shadesGo l D g T h0 s54 hW.2.1 (by have := (hp55.1.2.2.2.1.trans (hp39.1.2.2.2.1.trans q53_6)); omega) hp55.1.1 hp55.1.2.1 hp55.1.2.2.1) ⟨rfl, rfl, ⟨by decide, by decide⟩, ⟨by decide, by decide⟩⟩ rfl rfl (Nat.le_of_ble_eq_true rfl) dX11_servedIn_78) hW (fun s61 H locs hp62 hW => ?_)
        obtain ⟨fs61, hp62⟩ := hp62
        have hF63 := hF56.call fs61 (fun k h => by omega)
        have q64 : s61 270 37 = s0 269 37 := (congrFun (fs61 _ (by omega)) _).trans q57
        have ghp62 := hp62.2
        refine x_iinc (lv' := [(4, .int (xJ (i4_18 + 1))), (0, .ref (h0 + 268)), (1, .int (xJ j)), (2, .int (xJ n)), (3, .int (xJ a))]) hx hb hl 4 rfl dX11_servedIn_81 (by decide) rfl (fun ls hl => ?_)
        refine lv_goto (tgt := 18) hx hb dX11_servedIn_84 (by decide) ?_
        exact ih18 (i4_18 + 1) s61 H locs ls (by omega) hF63 q64 hp62.1.1 hp62.1.2.1 hp62.1.2.2.1 (hp62.1.2.2.2.1.trans q58) (hp62.1.2.2.2.2.1.trans q59) (by omega) (by omega) hW (lv_sub hl [1, 2, 3, 4, 0] rfl)
      refine x_if_ne (tgt := 53) hx hb rj dX11_servedIn_38 (by decide) (fun c65 => ?_) (fun c65 => ?_)
      · skip
        exact J53 s_18 H locs ls hF_18 q18_1 q18_2 q18_3 q18_4 q18_5 q18_6 q26 hW (lv_sub hl [0, 1, 2, 3, 4] rfl)
      refine x_aload_n hx hb hl 0 rfl dX11_servedIn_41 rfl ?_
      refine x_iconst hx hb dX11_servedIn_42 ?_
      refine x_iload_n hx hb hl 3 rfl dX11_servedIn_43 rfl ?_
      refine x_iload_n hx hb hl 2 rfl dX11_servedIn_44 rfl ?_
      refine x_iload hx hb hl 4 rfl dX11_servedIn_45 ?_
      refine x_goi (x_runS (As := [.int (xJ a), .int (xJ n), .int (xJ i4_18)]) hx hb hml hown hT hE hW hl.1 cf_X11_stepIn wq1700 wq1699 (c_X11_stepIn l D g T h0 s_18 hW.2.1 a ra n rn i4_18 ri4_18 (by omega)) ⟨rfl, rfl, ⟨by decide, by decide⟩, ⟨by decide, by decide⟩⟩ rfl rfl (Nat.le_of_ble_eq_true rfl) dX11_servedIn_47) hW (fun x66 s67 H locs rx66 hp68 hW => ?_)
      obtain ⟨es67, hp68⟩ := hp68
      subst es67
      have ghp68 := hp68
      refine x_gov (x_runV (As := [.int (xJ 0), .int (xJ x66)]) hx hb hml hown hT hE hW hl.1 (Or.inl (by decide)) (so_268 h0 g _) rfl cf_X11_steps wq1551 wq133 wq1549 (c_X11_steps l D g T h0 s_18 hW.2.1 0 (by decide) x66 rx66 (by omega) q18_2 q18_3 q18_4) ⟨rfl, rfl, ⟨by decide, by decide⟩, ⟨by decide, by decide⟩⟩ rfl rfl (Nat.le_of_ble_eq_true rfl) dX11_servedIn_50) hW (fun s70 H locs hp71 hW => ?_)
      obtain ⟨fs70, hp71⟩ := hp71
      have hF72 := hF_18.call fs70 (fun k h => by omega)
      have q73 : s70 270 37 = s0 269 37 := (congrFun (fs70 _ (by omega)) _).trans q18_1
      have q74 : s70 268 8 = s0 268 8 := (congrFun (fs70 _ (by omega)) _).trans q18_5
      have q75 : s70 268 58 = s0 268 58 := (congrFun (fs70 _ (by omega)) _).trans q18_6
      have ghp71 := hp71.2
      exact J53 s70 H locs ls hF72 q73 hp71.1.1 hp71.1.2.1 hp71.1.2.2.1 q74 q75 (hp71.1.2.2.2.1.trans q26) hW (lv_sub hl [0, 1, 2, 3, 4] rfl)
  exact L18 ((n + 1 - 0 : Int).toNat + 1) 0 s10 H locs ls (by decide) hF12 q14 hp11.1.1 hp11.1.2.1 hp11.1.2.2.1 (hp11.1.2.2.2.1.trans q5) (hp11.1.2.2.2.2.1.trans q6) (by omega) (Nat.lt_succ_self _) hW (lv_sub hl [1, 2, 3, 4, 0] rfl)
set_option maxHeartbeats 4000000 in
set_option maxRecDepth 100000 in
theorem c_X11_homeM (l : Launch) (D : va_G) (g : xG) (T : Nat × Nat × Nat) (h0 : Nat) (s0 : xS) (hσ : xRR s0) (j : Int) (rj : xR j) (n : Int) (rn : xR n) (x : Int) (rx : xR x) (p0 : IMn s0) (p1 : IMk s0) (p2 : IMo s0) : Met l yX11_home (xws yX11_home cX11_home 9 (some .int)) { frames := 9, cells := 0, slots := 0, locals := 211 } (xP [.ref (h0 + 268), .int (xJ j), .int (xJ n), .int (xJ x)] D g T h0 s0) (xQi D g h0 (fun r τ => xFr (fun k => k = 268 ∨ k = 269 ∨ k = 270 ∨ k = 293 ∨ k = 294 ∨ k = 295 ∨ k = 296 ∨ k = 297 ∨ k = 298 ∨ k = 299) s0 τ ∧ (((IMn τ) ∧ (IMk τ) ∧ (IMo τ) ∧ (τ 268 8 = s0 268 8) ∧ (τ 268 58 = s0 268 58) ∧ (τ 269 37 = s0 269 37) ∧ True) ∧ (True)))) 0 0 (xA h0) := by
  refine x_met hσ (by decide) (Nat.le_of_ble_eq_true rfl) ?_
  intro p e s m args below meth c hx hb hr hml hown hT hlk hnm hE hW ls hl
  have hl : lv_has ls 9 [(0, .ref (h0 + 268)), (1, .int (xJ j)), (2, .int (xJ n)), (3, .int (xJ x))] := hl
  obtain ⟨Q, eQ⟩ : ∃ Q, Q = MQ below (xQi D g h0 (fun r τ => xFr (fun k => k = 268 ∨ k = 269 ∨ k = 270 ∨ k = 293 ∨ k = 294 ∨ k = 295 ∨ k = 296 ∨ k = 297 ∨ k = 298 ∨ k = 299) s0 τ ∧ (((IMn τ) ∧ (IMk τ) ∧ (IMo τ) ∧ (τ 268 8 = s0 268 8) ∧ (τ 268 58 = s0 268 58) ∧ (τ 269 37 = s0 269 37) ∧ True) ∧ (True)))) args s 0 0 (xA h0) := ⟨_, rfl⟩
  rw [← eQ]
  generalize hHe : ([] : List Loc) = locs at hW ⊢
  obtain ⟨H, eH⟩ : ∃ H, H = s.heap := ⟨_, rfl⟩
  rw [← eH] at hW ⊢
  have hF : xFr (fun k => k = 268 ∨ k = 269 ∨ k = 270 ∨ k = 293 ∨ k = 294 ∨ k = 295 ∨ k = 296 ∨ k = 297 ∨ k = 298 ∨ k = 299) s0 s0 := xFr.rf
  have k268_8 : s0 268 8 = s0 268 8 := rfl
  have k268_58 : s0 268 58 = s0 268 58 := rfl
  have k269_37 : s0 269 37 = s0 269 37 := rfl
  refine x_aload_n hx hb hl 0 rfl dX11_home_0 rfl ?_
  refine x_iload_n hx hb hl 1 rfl dX11_home_1 rfl ?_
  refine x_goi (x_runV (As := [.int (xJ j)]) hx hb hml hown hT hE hW hl.1 (Or.inl (by decide)) (so_268 h0 g _) rfl cf_X11_isJudge wq1409 wq109 wq1407 (c_X11_isJudge l D g T h0 s0 hW.2.1 j rj p0 p1 p2) ⟨rfl, rfl, ⟨by decide, by decide⟩, ⟨by decide, by decide⟩⟩ rfl rfl (Nat.le_of_ble_eq_true rfl) dX11_home_2) hW (fun x1 s2 H locs rx1 hp3 hW => ?_)
  obtain ⟨es2, hp3⟩ := hp3
  subst es2
  have ghp3 := hp3
  refine x_if_eq (tgt := 34) hx hb rx1 dX11_home_5 (by decide) (fun c4 => ?_) (fun c4 => ?_)
  · skip
    refine x_iconst hx hb dX11_home_34 ?_
    rw [eQ]
    exact x_iret hx hb hr hlk hW (by decide) ⟨hF, ⟨p0, p1, p2, k268_8, k268_58, k269_37, trivial⟩, trivial⟩ dX11_home_35
  refine x_iload_n hx hb hl 2 rfl dX11_home_8 rfl ?_
  refine x_iconst hx hb dX11_home_9 ?_
  refine x_iconst hx hb dX11_home_10 ?_
  refine x_goi (x_runS (As := [.int (xJ n), .int (xJ 1), .int (xJ 5)]) hx hb hml hown hT hE hW hl.1 cf_X11_in wq1383 wq1382 (c_X11_in l D g T h0 s0 hW.2.1 n rn 1 (by decide) 5 (by decide)) ⟨rfl, rfl, ⟨by decide, by decide⟩, ⟨by decide, by decide⟩⟩ rfl rfl (Nat.le_of_ble_eq_true rfl) dX11_home_11) hW (fun x5 s6 H locs rx5 hp7 hW => ?_)
  obtain ⟨es6, hp7⟩ := hp7
  subst es6
  have ghp7 := hp7
  refine x_if_eq (tgt := 34) hx hb rx5 dX11_home_14 (by decide) (fun c8 => ?_) (fun c8 => ?_)
  · skip
    refine x_iconst hx hb dX11_home_34 ?_
    rw [eQ]
    exact x_iret hx hb hr hlk hW (by decide) ⟨hF, ⟨p0, p1, p2, k268_8, k268_58, k269_37, trivial⟩, trivial⟩ dX11_home_35
  refine x_iload_n hx hb hl 3 rfl dX11_home_17 rfl ?_
  refine x_bipush hx hb dX11_home_18 (by decide) ?_
  refine x_icmp_eq (tgt := 36) hx hb rx (by decide) dX11_home_20 (by decide) (fun c9 => ?_) (fun c9 => ?_)
  · skip
    refine x_iconst hx hb dX11_home_36 ?_
    refine lv_istore (lv' := [(4, .int (xJ 1)), (0, .ref (h0 + 268)), (1, .int (xJ j)), (2, .int (xJ n)), (3, .int (xJ x))]) hx hb dX11_home_37 hl (by decide) rfl (fun ls hl => ?_)
    refine x_iconst hx hb dX11_home_39 ?_
    refine lv_istore (lv' := [(5, .int (xJ 0)), (4, .int (xJ 1)), (0, .ref (h0 + 268)), (1, .int (xJ j)), (2, .int (xJ n)), (3, .int (xJ x))]) hx hb dX11_home_40 hl (by decide) rfl (fun ls hl => ?_)
    have L42 : ∀ (fu : Nat) (i4_42 : Int) (i5_42 : Int) (ls : Array Slot), (xR i4_42) → (xR i5_42) → (0 ≤ i5_42) → (n + 1 - i5_42).toNat < fu → lv_has ls 9 [(0, .ref (h0 + 268)), (1, .int (xJ j)), (2, .int (xJ n)), (3, .int (xJ x)), (4, .int (xJ i4_42)), (5, .int (xJ i5_42))] → W p l e { frames := 9, cells := 0, slots := 0, locals := 211 } s m args below meth c H locs 0 0 Q (F0 m 42 ls []) := by
      intro fu
      induction fu with
      | zero => intro i4_42 i5_42 ls ri4_42 ri5_42 v42_0 hm; exact absurd hm (Nat.not_lt_zero _)
      | succ fu ih42 =>
        intro i4_42 i5_42 ls ri4_42 ri5_42 v42_0 hm  hl
        refine x_iload hx hb hl 5 rfl dX11_home_42 ?_
        refine x_iload_n hx hb hl 2 rfl dX11_home_44 rfl ?_
        refine x_icmp_ge (tgt := 60) hx hb ri5_42 rn dX11_home_45 (by decide) (fun c10 => ?_) (fun c10 => ?_)
        · skip
          refine x_iconst hx hb dX11_home_60 ?_
          refine lv_istore (lv' := [(5, .int (xJ (-1))), (0, .ref (h0 + 268)), (1, .int (xJ j)), (2, .int (xJ n)), (3, .int (xJ x)), (4, .int (xJ i4_42))]) hx hb dX11_home_61 hl (by decide) rfl (fun ls hl => ?_)
          refine x_iconst hx hb dX11_home_63 ?_
          refine lv_istore (lv' := [(6, .int (xJ (-1))), (5, .int (xJ (-1))), (0, .ref (h0 + 268)), (1, .int (xJ j)), (2, .int (xJ n)), (3, .int (xJ x)), (4, .int (xJ i4_42))]) hx hb dX11_home_64 hl (by decide) rfl (fun ls hl => ?_)
          refine x_iconst hx hb dX11_home_66 ?_
          refine lv_istore (lv' := [(7, .int (xJ 0)), (6, .int (xJ (-1))), (5, .int (xJ (-1))), (0, .ref (h0 + 268)), (1, .int (xJ j)), (2, .int (xJ n)), (3, .int (xJ x)), (4, .int (xJ i4_42))]) hx hb dX11_home_67 hl (by decide) rfl (fun ls hl => ?_)
          have L69 : ∀ (fu : Nat) (i5_69 : Int) (i6_69 : Int) (i7_69 : Int) (s_69 : xS) (H : Heap) (locs : List Loc) (ls : Array Slot), (xR i5_69) → (xR i6_69) → (xR i7_69) → (xFr (fun k => k = 268 ∨ k = 269 ∨ k = 270 ∨ k = 293 ∨ k = 294 ∨ k = 295 ∨ k = 296 ∨ k = 297 ∨ k = 298 ∨ k = 299) s0 s_69) → (IMn s_69) → (IMk s_69) → (IMo s_69) → (s_69 268 8 = s0 268 8) → (s_69 268 58 = s0 268 58) → (s_69 269 37 = s0 269 37) → (0 ≤ i7_69) → (i4_42 + 1 - i7_69).toNat < fu → xW D g h0 s H locs s_69 → lv_has ls 9 [(0, .ref (h0 + 268)), (1, .int (xJ j)), (2, .int (xJ n)), (3, .int (xJ x)), (4, .int (xJ i4_42)), (5, .int (xJ i5_69)), (6, .int (xJ i6_69)), (7, .int (xJ i7_69))] → W p l e { frames := 9, cells := 0, slots := 0, locals := 211 } s m args below meth c H locs 0 0 Q (F0 m 69 ls []) := by
            intro fu
            induction fu with
            | zero => intro i5_69 i6_69 i7_69 s_69 H locs ls ri5_69 ri6_69 ri7_69 hF_69 q69_0 q69_1 q69_2 q69_3 q69_4 q69_5 v69_0 hm; exact absurd hm (Nat.not_lt_zero _)
            | succ fu ih69 =>
              intro i5_69 i6_69 i7_69 s_69 H locs ls ri5_69 ri6_69 ri7_69 hF_69 q69_0 q69_1 q69_2 q69_3 q69_4 q69_5 v69_0 hm hW hl
              refine x_iload hx hb hl 7 rfl dX11_home_69 ?_
              refine x_iload hx hb hl 4 rfl dX11_home_71 ?_
              refine x_icmp_ge (tgt := 110) hx hb ri7_69 ri4_42 dX11_home_73 (by decide) (fun c11 => ?_) (fun c11 => ?_)
              · skip
                refine x_iload_n hx hb hl 3 rfl dX11_home_110 rfl ?_
                refine x_bipush hx hb dX11_home_111 (by decide) ?_
                refine x_icmp_ne (tgt := 121) hx hb rx (by decide) dX11_home_113 (by decide) (fun c12 => ?_) (fun c12 => ?_)
                · skip
                  refine x_iload hx hb hl 5 rfl dX11_home_121 ?_
                  refine x_iload_n hx hb hl 2 rfl dX11_home_123 rfl ?_
                  refine x_iload_n hx hb hl 3 rfl dX11_home_124 rfl ?_
                  refine x_goi (x_runS (As := [.int (xJ i5_69), .int (xJ n), .int (xJ x)]) hx hb hml hown hT hE hW hl.1 cf_X11_stepIn wq1700 wq1699 (c_X11_stepIn l D g T h0 s_69 hW.2.1 i5_69 ri5_69 n rn x rx (by omega)) ⟨rfl, rfl, ⟨by decide, by decide⟩, ⟨by decide, by decide⟩⟩ rfl rfl (Nat.le_of_ble_eq_true rfl) dX11_home_125) hW (fun x13 s14 H locs rx13 hp15 hW => ?_)
                  obtain ⟨es14, hp15⟩ := hp15
                  subst es14
                  have ghp15 := hp15
                  refine x_iconst hx hb dX11_home_128 ?_
                  refine x_idivQ hx hb (by decide) (by omega) dX11_home_129 (fun x16 rx16 => ?_)
                  rw [eQ]
                  exact x_iret hx hb hr hlk hW rx16 ⟨hF_69, ⟨q69_0, q69_1, q69_2, q69_3, q69_4, q69_5, trivial⟩, trivial⟩ dX11_home_130
                refine x_iload hx hb hl 6 rfl dX11_home_116 ?_
                refine lv_goto (tgt := 130) hx hb dX11_home_118 (by decide) ?_
                rw [eQ]
                exact x_iret hx hb hr hlk hW ri6_69 ⟨hF_69, ⟨q69_0, q69_1, q69_2, q69_3, q69_4, q69_5, trivial⟩, trivial⟩ dX11_home_130
              refine x_aload_n hx hb hl 0 rfl dX11_home_76 rfl ?_
              refine x_iload_n hx hb hl 1 rfl dX11_home_77 rfl ?_
              refine x_iload_n hx hb hl 2 rfl dX11_home_78 rfl ?_
              refine x_iload hx hb hl 7 rfl dX11_home_79 ?_
              refine x_goi (x_runV (As := [.int (xJ j), .int (xJ n), .int (xJ i7_69)]) hx hb hml hown hT hE hW hl.1 (Or.inl (by decide)) (so_268 h0 g _) rfl cf_X11_servedIn wq1697 wq157 wq1695 (c_X11_servedInM l D g T h0 s_69 hW.2.1 j rj n rn i7_69 ri7_69 (by omega) q69_0 q69_1 q69_2) ⟨rfl, rfl, ⟨by decide, by decide⟩, ⟨by decide, by decide⟩⟩ rfl rfl (Nat.le_of_ble_eq_true rfl) dX11_home_81) hW (fun x17 s18 H locs rx17 hp19 hW => ?_)
              obtain ⟨fs18, hp19⟩ := hp19
              have hF20 := hF_69.call fs18 (fun k h => by omega)
              have ghp19 := hp19.2
              refine lv_istore (lv' := [(8, .int (xJ x17)), (0, .ref (h0 + 268)), (1, .int (xJ j)), (2, .int (xJ n)), (3, .int (xJ x)), (4, .int (xJ i4_42)), (5, .int (xJ i5_69)), (6, .int (xJ i6_69)), (7, .int (xJ i7_69))]) hx hb dX11_home_84 hl (by decide) rfl (fun ls hl => ?_)
              refine x_iload hx hb hl 0 rfl dX11_home_86 ?_
              refine x_iload hx hb hl 7 rfl dX11_home_88 ?_
              refine x_icmp_gt (tgt := 96) hx hb rx17 ri6_69 dX11_home_90 (by decide) (fun c21 => ?_) (fun c21 => ?_)
              · skip
                refine x_iload hx hb hl 0 rfl dX11_home_96 ?_
                refine lv_istore (lv' := [(6, .int (xJ x17)), (8, .int (xJ x17)), (0, .ref (h0 + 268)), (1, .int (xJ j)), (2, .int (xJ n)), (3, .int (xJ x)), (4, .int (xJ i4_42)), (5, .int (xJ i5_69)), (7, .int (xJ i7_69))]) hx hb dX11_home_98 hl (by decide) rfl (fun ls hl => ?_)
                refine x_iload hx hb hl 8 rfl dX11_home_100 ?_
                refine lv_istore (lv' := [(5, .int (xJ i7_69)), (6, .int (xJ x17)), (8, .int (xJ x17)), (0, .ref (h0 + 268)), (1, .int (xJ j)), (2, .int (xJ n)), (3, .int (xJ x)), (4, .int (xJ i4_42)), (7, .int (xJ i7_69))]) hx hb dX11_home_102 hl (by decide) rfl (fun ls hl => ?_)
                refine x_iinc (lv' := [(7, .int (xJ (i7_69 + 1))), (5, .int (xJ i7_69)), (6, .int (xJ x17)), (8, .int (xJ x17)), (0, .ref (h0 + 268)), (1, .int (xJ j)), (2, .int (xJ n)), (3, .int (xJ x)), (4, .int (xJ i4_42))]) hx hb hl 8 rfl dX11_home_104 (by decide) rfl (fun ls hl => ?_)
                refine lv_goto (tgt := 69) hx hb dX11_home_107 (by decide) ?_
                exact ih69 i7_69 x17 (i7_69 + 1) s18 H locs ls ri7_69 rx17 (by omega) hF20 hp19.1.1 hp19.1.2.1 hp19.1.2.2.1 (hp19.1.2.2.2.1.trans q69_3) (hp19.1.2.2.2.2.1.trans q69_4) (hp19.1.2.2.2.2.2.1.trans q69_5) (by omega) (by omega) hW (lv_sub hl [4, 5, 6, 7, 8, 1, 2, 0] rfl)
              refine lv_goto (tgt := 104) hx hb dX11_home_93 (by decide) ?_
              refine x_iinc (lv' := [(7, .int (xJ (i7_69 + 1))), (8, .int (xJ x17)), (0, .ref (h0 + 268)), (1, .int (xJ j)), (2, .int (xJ n)), (3, .int (xJ x)), (4, .int (xJ i4_42)), (5, .int (xJ i5_69)), (6, .int (xJ i6_69))]) hx hb hl 8 rfl dX11_home_104 (by decide) rfl (fun ls hl => ?_)
              refine lv_goto (tgt := 69) hx hb dX11_home_107 (by decide) ?_
              exact ih69 i5_69 i6_69 (i7_69 + 1) s18 H locs ls ri5_69 ri6_69 (by omega) hF20 hp19.1.1 hp19.1.2.1 hp19.1.2.2.1 (hp19.1.2.2.2.1.trans q69_3) (hp19.1.2.2.2.2.1.trans q69_4) (hp19.1.2.2.2.2.2.1.trans q69_5) (by omega) (by omega) hW (lv_sub hl [2, 3, 4, 5, 6, 7, 8, 0] rfl)
          exact L69 ((i4_42 + 1 - 0 : Int).toNat + 1) (-1) (-1) 0 s0 H locs ls (by decide) (by decide) (by decide) hF p0 p1 p2 k268_8 k268_58 k269_37 (by omega) (Nat.lt_succ_self _) hW (lv_sub hl [3, 4, 5, 6, 7, 2, 1, 0] rfl)
        refine x_iload hx hb hl 4 rfl dX11_home_48 ?_
        refine x_iconst hx hb dX11_home_50 ?_
        refine x_imul hx hb dX11_home_51 ?_
        refine x_any (fun x22 rx22 => ?_)
        refine lv_istore (lv' := [(4, .int (xJ x22)), (0, .ref (h0 + 268)), (1, .int (xJ j)), (2, .int (xJ n)), (3, .int (xJ x)), (5, .int (xJ i5_42))]) hx hb dX11_home_52 hl (by decide) rfl (fun ls hl => ?_)
        refine x_iinc (lv' := [(5, .int (xJ (i5_42 + 1))), (4, .int (xJ x22)), (0, .ref (h0 + 268)), (1, .int (xJ j)), (2, .int (xJ n)), (3, .int (xJ x))]) hx hb hl 5 rfl dX11_home_54 (by decide) rfl (fun ls hl => ?_)
        refine lv_goto (tgt := 42) hx hb dX11_home_57 (by decide) ?_
        exact ih42 x22 (i5_42 + 1) ls rx22 (by omega) (by omega) (by omega)  (lv_sub hl [2, 3, 4, 5, 1, 0] rfl)
    exact L42 ((n + 1 - 0 : Int).toNat + 1) 1 0 ls (by decide) (by decide) (by omega) (Nat.lt_succ_self _)  (lv_sub hl [2, 3, 4, 5, 1, 0] rfl)
  refine x_iload_n hx hb hl 3 rfl dX11_home_23 rfl ?_
  refine x_iconst hx hb dX11_home_24 ?_
  refine x_iload_n hx hb hl 2 rfl dX11_home_25 rfl ?_
  refine x_iconst hx hb dX11_home_26 ?_
  refine x_isub hx hb dX11_home_27 ?_
  refine x_goi (x_runS (As := [.int (xJ x), .int (xJ 0), .int (xJ (n - 1))]) hx hb hml hown hT hE hW hl.1 cf_X11_in wq1383 wq1382 (c_X11_in l D g T h0 s0 hW.2.1 x rx 0 (by decide) (n - 1) (by omega)) ⟨rfl, rfl, ⟨by decide, by decide⟩, ⟨by decide, by decide⟩⟩ rfl rfl (Nat.le_of_ble_eq_true rfl) dX11_home_28) hW (fun x23 s24 H locs rx23 hp25 hW => ?_)
  obtain ⟨es24, hp25⟩ := hp25
  subst es24
  have ghp25 := hp25
  refine x_if_ne (tgt := 36) hx hb rx23 dX11_home_31 (by decide) (fun c26 => ?_) (fun c26 => ?_)
  · skip
    refine x_iconst hx hb dX11_home_36 ?_
    refine lv_istore (lv' := [(4, .int (xJ 1)), (0, .ref (h0 + 268)), (1, .int (xJ j)), (2, .int (xJ n)), (3, .int (xJ x))]) hx hb dX11_home_37 hl (by decide) rfl (fun ls hl => ?_)
    refine x_iconst hx hb dX11_home_39 ?_
    refine lv_istore (lv' := [(5, .int (xJ 0)), (4, .int (xJ 1)), (0, .ref (h0 + 268)), (1, .int (xJ j)), (2, .int (xJ n)), (3, .int (xJ x))]) hx hb dX11_home_40 hl (by decide) rfl (fun ls hl => ?_)
    have L42 : ∀ (fu : Nat) (i4_42 : Int) (i5_42 : Int) (ls : Array Slot), (xR i4_42) → (xR i5_42) → (0 ≤ i5_42) → (n + 1 - i5_42).toNat < fu → lv_has ls 9 [(0, .ref (h0 + 268)), (1, .int (xJ j)), (2, .int (xJ n)), (3, .int (xJ x)), (4, .int (xJ i4_42)), (5, .int (xJ i5_42))] → W p l e { frames := 9, cells := 0, slots := 0, locals := 211 } s m args below meth c H locs 0 0 Q (F0 m 42 ls []) := by
      intro fu
      induction fu with
      | zero => intro i4_42 i5_42 ls ri4_42 ri5_42 v42_0 hm; exact absurd hm (Nat.not_lt_zero _)
      | succ fu ih42 =>
        intro i4_42 i5_42 ls ri4_42 ri5_42 v42_0 hm  hl
        refine x_iload hx hb hl 5 rfl dX11_home_42 ?_
        refine x_iload_n hx hb hl 2 rfl dX11_home_44 rfl ?_
        refine x_icmp_ge (tgt := 60) hx hb ri5_42 rn dX11_home_45 (by decide) (fun c27 => ?_) (fun c27 => ?_)
        · skip
          refine x_iconst hx hb dX11_home_60 ?_
          refine lv_istore (lv' := [(5, .int (xJ (-1))), (0, .ref (h0 + 268)), (1, .int (xJ j)), (2, .int (xJ n)), (3, .int (xJ x)), (4, .int (xJ i4_42))]) hx hb dX11_home_61 hl (by decide) rfl (fun ls hl => ?_)
          refine x_iconst hx hb dX11_home_63 ?_
          refine lv_istore (lv' := [(6, .int (xJ (-1))), (5, .int (xJ (-1))), (0, .ref (h0 + 268)), (1, .int (xJ j)), (2, .int (xJ n)), (3, .int (xJ x)), (4, .int (xJ i4_42))]) hx hb dX11_home_64 hl (by decide) rfl (fun ls hl => ?_)
          refine x_iconst hx hb dX11_home_66 ?_
          refine lv_istore (lv' := [(7, .int (xJ 0)), (6, .int (xJ (-1))), (5, .int (xJ (-1))), (0, .ref (h0 + 268)), (1, .int (xJ j)), (2, .int (xJ n)), (3, .int (xJ x)), (4, .int (xJ i4_42))]) hx hb dX11_home_67 hl (by decide) rfl (fun ls hl => ?_)
          have L69 : ∀ (fu : Nat) (i5_69 : Int) (i6_69 : Int) (i7_69 : Int) (s_69 : xS) (H : Heap) (locs : List Loc) (ls : Array Slot), (xR i5_69) → (xR i6_69) → (xR i7_69) → (xFr (fun k => k = 268 ∨ k = 269 ∨ k = 270 ∨ k = 293 ∨ k = 294 ∨ k = 295 ∨ k = 296 ∨ k = 297 ∨ k = 298 ∨ k = 299) s0 s_69) → (IMn s_69) → (IMk s_69) → (IMo s_69) → (s_69 268 8 = s0 268 8) → (s_69 268 58 = s0 268 58) → (s_69 269 37 = s0 269 37) → (0 ≤ i7_69) → (i4_42 + 1 - i7_69).toNat < fu → xW D g h0 s H locs s_69 → lv_has ls 9 [(0, .ref (h0 + 268)), (1, .int (xJ j)), (2, .int (xJ n)), (3, .int (xJ x)), (4, .int (xJ i4_42)), (5, .int (xJ i5_69)), (6, .int (xJ i6_69)), (7, .int (xJ i7_69))] → W p l e { frames := 9, cells := 0, slots := 0, locals := 211 } s m args below meth c H locs 0 0 Q (F0 m 69 ls []) := by
            intro fu
            induction fu with
            | zero => intro i5_69 i6_69 i7_69 s_69 H locs ls ri5_69 ri6_69 ri7_69 hF_69 q69_0 q69_1 q69_2 q69_3 q69_4 q69_5 v69_0 hm; exact absurd hm (Nat.not_lt_zero _)
            | succ fu ih69 =>
              intro i5_69 i6_69 i7_69 s_69 H locs ls ri5_69 ri6_69 ri7_69 hF_69 q69_0 q69_1 q69_2 q69_3 q69_4 q69_5 v69_0 hm hW hl
              refine x_iload hx hb hl 7 rfl dX11_home_69 ?_
              refine x_iload hx hb hl 4 rfl dX11_home_71 ?_
              refine x_icmp_ge (tgt := 110) hx hb ri7_69 ri4_42 dX11_home_73 (by decide) (fun c28 => ?_) (fun c28 => ?_)
              · skip
                refine x_iload_n hx hb hl 3 rfl dX11_home_110 rfl ?_
                refine x_bipush hx hb dX11_home_111 (by decide) ?_
                refine x_icmp_ne (tgt := 121) hx hb rx (by decide) dX11_home_113 (by decide) (fun c29 => ?_) (fun c29 => ?_)
                · skip
                  refine x_iload hx hb hl 5 rfl dX11_home_121 ?_
                  refine x_iload_n hx hb hl 2 rfl dX11_home_123 rfl ?_
                  refine x_iload_n hx hb hl 3 rfl dX11_home_124 rfl ?_
                  refine x_goi (x_runS (As := [.int (xJ i5_69), .int (xJ n), .int (xJ x)]) hx hb hml hown hT hE hW hl.1 cf_X11_stepIn wq1700 wq1699 (c_X11_stepIn l D g T h0 s_69 hW.2.1 i5_69 ri5_69 n rn x rx (by omega)) ⟨rfl, rfl, ⟨by decide, by decide⟩, ⟨by decide, by decide⟩⟩ rfl rfl (Nat.le_of_ble_eq_true rfl) dX11_home_125) hW (fun x30 s31 H locs rx30 hp32 hW => ?_)
                  obtain ⟨es31, hp32⟩ := hp32
                  subst es31
                  have ghp32 := hp32
                  refine x_iconst hx hb dX11_home_128 ?_
                  refine x_idivQ hx hb (by decide) (by omega) dX11_home_129 (fun x33 rx33 => ?_)
                  rw [eQ]
                  exact x_iret hx hb hr hlk hW rx33 ⟨hF_69, ⟨q69_0, q69_1, q69_2, q69_3, q69_4, q69_5, trivial⟩, trivial⟩ dX11_home_130
                refine x_iload hx hb hl 6 rfl dX11_home_116 ?_
                refine lv_goto (tgt := 130) hx hb dX11_home_118 (by decide) ?_
                rw [eQ]
                exact x_iret hx hb hr hlk hW ri6_69 ⟨hF_69, ⟨q69_0, q69_1, q69_2, q69_3, q69_4, q69_5, trivial⟩, trivial⟩ dX11_home_130
              refine x_aload_n hx hb hl 0 rfl dX11_home_76 rfl ?_
              refine x_iload_n hx hb hl 1 rfl dX11_home_77 rfl ?_
              refine x_iload_n hx hb hl 2 rfl dX11_home_78 rfl ?_
              refine x_iload hx hb hl 7 rfl dX11_home_79 ?_
              refine x_goi (x_runV (As := [.int (xJ j), .int (xJ n), .int (xJ i7_69)]) hx hb hml hown hT hE hW hl.1 (Or.inl (by decide)) (so_268 h0 g _) rfl cf_X11_servedIn wq1697 wq157 wq1695 (c_X11_servedInM l D g T h0 s_69 hW.2.1 j rj n rn i7_69 ri7_69 (by omega) q69_0 q69_1 q69_2) ⟨rfl, rfl, ⟨by decide, by decide⟩, ⟨by decide, by decide⟩⟩ rfl rfl (Nat.le_of_ble_eq_true rfl) dX11_home_81) hW (fun x34 s35 H locs rx34 hp36 hW => ?_)
              obtain ⟨fs35, hp36⟩ := hp36
              have hF37 := hF_69.call fs35 (fun k h => by omega)
              have ghp36 := hp36.2
              refine lv_istore (lv' := [(8, .int (xJ x34)), (0, .ref (h0 + 268)), (1, .int (xJ j)), (2, .int (xJ n)), (3, .int (xJ x)), (4, .int (xJ i4_42)), (5, .int (xJ i5_69)), (6, .int (xJ i6_69)), (7, .int (xJ i7_69))]) hx hb dX11_home_84 hl (by decide) rfl (fun ls hl => ?_)
              refine x_iload hx hb hl 0 rfl dX11_home_86 ?_
              refine x_iload hx hb hl 7 rfl dX11_home_88 ?_
              refine x_icmp_gt (tgt := 96) hx hb rx34 ri6_69 dX11_home_90 (by decide) (fun c38 => ?_) (fun c38 => ?_)
              · skip
                refine x_iload hx hb hl 0 rfl dX11_home_96 ?_
                refine lv_istore (lv' := [(6, .int (xJ x34)), (8, .int (xJ x34)), (0, .ref (h0 + 268)), (1, .int (xJ j)), (2, .int (xJ n)), (3, .int (xJ x)), (4, .int (xJ i4_42)), (5, .int (xJ i5_69)), (7, .int (xJ i7_69))]) hx hb dX11_home_98 hl (by decide) rfl (fun ls hl => ?_)
                refine x_iload hx hb hl 8 rfl dX11_home_100 ?_
                refine lv_istore (lv' := [(5, .int (xJ i7_69)), (6, .int (xJ x34)), (8, .int (xJ x34)), (0, .ref (h0 + 268)), (1, .int (xJ j)), (2, .int (xJ n)), (3, .int (xJ x)), (4, .int (xJ i4_42)), (7, .int (xJ i7_69))]) hx hb dX11_home_102 hl (by decide) rfl (fun ls hl => ?_)
                refine x_iinc (lv' := [(7, .int (xJ (i7_69 + 1))), (5, .int (xJ i7_69)), (6, .int (xJ x34)), (8, .int (xJ x34)), (0, .ref (h0 + 268)), (1, .int (xJ j)), (2, .int (xJ n)), (3, .int (xJ x)), (4, .int (xJ i4_42))]) hx hb hl 8 rfl dX11_home_104 (by decide) rfl (fun ls hl => ?_)
                refine lv_goto (tgt := 69) hx hb dX11_home_107 (by decide) ?_
                exact ih69 i7_69 x34 (i7_69 + 1) s35 H locs ls ri7_69 rx34 (by omega) hF37 hp36.1.1 hp36.1.2.1 hp36.1.2.2.1 (hp36.1.2.2.2.1.trans q69_3) (hp36.1.2.2.2.2.1.trans q69_4) (hp36.1.2.2.2.2.2.1.trans q69_5) (by omega) (by omega) hW (lv_sub hl [4, 5, 6, 7, 8, 1, 2, 0] rfl)
              refine lv_goto (tgt := 104) hx hb dX11_home_93 (by decide) ?_
              refine x_iinc (lv' := [(7, .int (xJ (i7_69 + 1))), (8, .int (xJ x34)), (0, .ref (h0 + 268)), (1, .int (xJ j)), (2, .int (xJ n)), (3, .int (xJ x)), (4, .int (xJ i4_42)), (5, .int (xJ i5_69)), (6, .int (xJ i6_69))]) hx hb hl 8 rfl dX11_home_104 (by decide) rfl (fun ls hl => ?_)
              refine lv_goto (tgt := 69) hx hb dX11_home_107 (by decide) ?_
              exact ih69 i5_69 i6_69 (i7_69 + 1) s35 H locs ls ri5_69 ri6_69 (by omega) hF37 hp36.1.1 hp36.1.2.1 hp36.1.2.2.1 (hp36.1.2.2.2.1.trans q69_3) (hp36.1.2.2.2.2.1.trans q69_4) (hp36.1.2.2.2.2.2.1.trans q69_5) (by omega) (by omega) hW (lv_sub hl [2, 3, 4, 5, 6, 7, 8, 0] rfl)
          exact L69 ((i4_42 + 1 - 0 : Int).toNat + 1) (-1) (-1) 0 s0 H locs ls (by decide) (by decide) (by decide) hF p0 p1 p2 k268_8 k268_58 k269_37 (by omega) (Nat.lt_succ_self _) hW (lv_sub hl [3, 4, 5, 6, 7, 2, 1, 0] rfl)
        refine x_iload hx hb hl 4 rfl dX11_home_48 ?_
        refine x_iconst hx hb dX11_home_50 ?_
        refine x_imul hx hb dX11_home_51 ?_
        refine x_any (fun x39 rx39 => ?_)
        refine lv_istore (lv' := [(4, .int (xJ x39)), (0, .ref (h0 + 268)), (1, .int (xJ j)), (2, .int (xJ n)), (3, .int (xJ x)), (5, .int (xJ i5_42))]) hx hb dX11_home_52 hl (by decide) rfl (fun ls hl => ?_)
        refine x_iinc (lv' := [(5, .int (xJ (i5_42 + 1))), (4, .int (xJ x39)), (0, .ref (h0 + 268)), (1, .int (xJ j)), (2, .int (xJ n)), (3, .int (xJ x))]) hx hb hl 5 rfl dX11_home_54 (by decide) rfl (fun ls hl => ?_)
        refine lv_goto (tgt := 42) hx hb dX11_home_57 (by decide) ?_
        exact ih42 x39 (i5_42 + 1) ls rx39 (by omega) (by omega) (by omega)  (lv_sub hl [2, 3, 4, 5, 1, 0] rfl)
    exact L42 ((n + 1 - 0 : Int).toNat + 1) 1 0 ls (by decide) (by decide) (by omega) (Nat.lt_succ_self _)  (lv_sub hl [2, 3, 4, 5, 1, 0] rfl)
  refine x_iconst hx hb dX11_home_34 ?_
  rw [eQ]
  exact x_iret hx hb hr hlk hW (by decide) ⟨hF, ⟨p0, p1, p2, k268_8, k268_58, k269_37, trivial⟩, trivial⟩ dX11_home_35
set_option maxHeartbeats 4000000 in
set_option maxRecDepth 100000 in
theorem c_X11_servedFirstM (l : Launch) (D : va_G) (g : xG) (T : Nat × Nat × Nat) (h0 : Nat) (s0 : xS) (hσ : xRR s0) (f : Int) (rf : xR f) (n : Int) (rn : xR n) (p0 : IMn s0) (p1 : IMk s0) (p2 : IMo s0) : Met l yX11_servedFirst (xws yX11_servedFirst cX11_servedFirst 3 (some .int)) { frames := 9, cells := 0, slots := 0, locals := 209 } (xP [.ref (h0 + 268), .int (xJ f), .int (xJ n)] D g T h0 s0) (xQi D g h0 (fun r τ => xFr (fun k => k = 268 ∨ k = 269 ∨ k = 270 ∨ k = 293 ∨ k = 294 ∨ k = 295 ∨ k = 296 ∨ k = 297 ∨ k = 298 ∨ k = 299) s0 τ ∧ (((IMn τ) ∧ (IMk τ) ∧ (IMo τ) ∧ (τ 268 8 = s0 268 8) ∧ (τ 268 58 = s0 268 58) ∧ (τ 269 37 = s0 269 37) ∧ True) ∧ (True)))) 0 0 (xA h0) := by
  refine x_met hσ (by decide) (Nat.le_of_ble_eq_true rfl) ?_
  intro p e s m args below meth c hx hb hr hml hown hT hlk hnm hE hW ls hl
  have hl : lv_has ls 3 [(0, .ref (h0 + 268)), (1, .int (xJ f)), (2, .int (xJ n))] := hl
  obtain ⟨Q, eQ⟩ : ∃ Q, Q = MQ below (xQi D g h0 (fun r τ => xFr (fun k => k = 268 ∨ k = 269 ∨ k = 270 ∨ k = 293 ∨ k = 294 ∨ k = 295 ∨ k = 296 ∨ k = 297 ∨ k = 298 ∨ k = 299) s0 τ ∧ (((IMn τ) ∧ (IMk τ) ∧ (IMo τ) ∧ (τ 268 8 = s0 268 8) ∧ (τ 268 58 = s0 268 58) ∧ (τ 269 37 = s0 269 37) ∧ True) ∧ (True)))) args s 0 0 (xA h0) := ⟨_, rfl⟩
  rw [← eQ]
  generalize hHe : ([] : List Loc) = locs at hW ⊢
  obtain ⟨H, eH⟩ : ∃ H, H = s.heap := ⟨_, rfl⟩
  rw [← eH] at hW ⊢
  have hF : xFr (fun k => k = 268 ∨ k = 269 ∨ k = 270 ∨ k = 293 ∨ k = 294 ∨ k = 295 ∨ k = 296 ∨ k = 297 ∨ k = 298 ∨ k = 299) s0 s0 := xFr.rf
  have k268_8 : s0 268 8 = s0 268 8 := rfl
  have k268_58 : s0 268 58 = s0 268 58 := rfl
  have k269_37 : s0 269 37 = s0 269 37 := rfl
  refine x_aload_n hx hb hl 0 rfl dX11_servedFirst_0 rfl ?_
  refine x_get (j := 0) (v := .ref (h0 + 269)) hx hb hown hT hE hW cls_X11 (Or.inl (by decide)) (so_268 h0 g _) (by decide) rfl wq1185 dX11_servedFirst_1 ?_
  refine x_aload_n hx hb hl 0 rfl dX11_servedFirst_4 rfl ?_
  refine x_get (j := 1) (v := .ref (h0 + 270)) hx hb hown hT hE hW cls_X11 (Or.inl (by decide)) (so_268 h0 g _) (by decide) rfl wq1186 dX11_servedFirst_5 ?_
  refine x_gov (x_runS (As := [.ref (h0 + 269), .ref (h0 + 270)]) hx hb hml hown hT hE hW hl.1 cf_X11_copies wq1647 wq1646 (c_X11_copiesMA l D g T h0 s0 hW.2.1 p0 p1 p2) ⟨rfl, rfl, ⟨by decide, by decide⟩, ⟨by decide, by decide⟩⟩ rfl rfl (Nat.le_of_ble_eq_true rfl) dX11_servedFirst_8) hW (fun s2 H locs hp3 hW => ?_)
  obtain ⟨fs2, hp3⟩ := hp3
  have hF4 := hF.call fs2 (fun k h => by omega)
  have q5 : s2 268 8 = s0 268 8 := (congrFun (fs2 _ (by omega)) _).trans k268_8
  have q6 : s2 268 58 = s0 268 58 := (congrFun (fs2 _ (by omega)) _).trans k268_58
  have q7 : s2 269 37 = s0 269 37 := (congrFun (fs2 _ (by omega)) _).trans k269_37
  have ghp3 := hp3.2
  have q8 : s2 270 37 = s0 269 37 := (ghp3 37 (by decide) (by decide)).trans ((congrFun (fs2 269 (by omega)) 37).symm.trans q7)
  refine x_aload_n hx hb hl 0 rfl dX11_servedFirst_11 rfl ?_
  refine x_iload_n hx hb hl 1 rfl dX11_servedFirst_12 rfl ?_
  refine x_put (j := 48) hx hb hown hT hE hW cls_X11 (by decide) (fun σ => so_268 h0 g σ) (by decide) (st_X11_48 h0 s2 268 f) (ln_X11_48 h0 _ _) wq1233 rfl rfl rfl rf dX11_servedFirst_13 (fun H locs s9 es9 hW => ?_)
  have q10 : s9 268 8 = s0 268 8 := (show s9 268 8 = s2 268 8 from by rw [es9, xU_j _ _ (by decide)]).trans q5
  have q11 : s9 268 58 = s0 268 58 := (show s9 268 58 = s2 268 58 from by rw [es9, xU_j _ _ (by decide)]).trans q6
  have q12 : s9 269 37 = s0 269 37 := (show s9 269 37 = s2 269 37 from by rw [es9, xU_k _ _ _ (by omega)]).trans q7
  have q13 : IMn s9 := by rw [es9]; exact IMn_268 hp3.1.1 (by omega)
  have q14 : IMk s9 := by rw [es9]; exact IMk_268 hp3.1.2.1 (by omega)
  have q15 : IMo s9 := by rw [es9]; exact IMo_o (by unfold suIMo; omega) hp3.1.2.2.1
  have q16 : s9 270 37 = s0 269 37 := (show s9 270 37 = s2 270 37 from by rw [es9, xU_k _ _ _ (by omega)]).trans q8
  have hF17 := hF4.put es9 (by omega)
  refine x_aload_n hx hb hl 0 rfl dX11_servedFirst_16 rfl ?_
  refine x_iload_n hx hb hl 2 rfl dX11_servedFirst_17 rfl ?_
  refine x_gov (x_runV (As := [.int (xJ n)]) hx hb hml hown hT hE hW hl.1 (Or.inl (by decide)) (so_268 h0 g _) rfl cf_X11_minutesGo wq1539 wq130 wq1537 (c_X11_minutesGoM l D g T h0 s9 hW.2.1 n rn q13 q14 q15) ⟨rfl, rfl, ⟨by decide, by decide⟩, ⟨by decide, by decide⟩⟩ rfl rfl (Nat.le_of_ble_eq_true rfl) dX11_servedFirst_18) hW (fun s19 H locs hp20 hW => ?_)
  obtain ⟨fs19, hp20⟩ := hp20
  have hF21 := hF17.call fs19 (fun k h => by omega)
  have q22 : s19 270 37 = s0 269 37 := (congrFun (fs19 _ (by omega)) _).trans q16
  have ghp20 := hp20.2
  refine x_aload_n hx hb hl 0 rfl dX11_servedFirst_21 rfl ?_
  refine x_iconst hx hb dX11_servedFirst_22 ?_
  refine x_put (j := 48) hx hb hown hT hE hW cls_X11 (by decide) (fun σ => so_268 h0 g σ) (by decide) (st_X11_48 h0 s19 268 (-1)) (ln_X11_48 h0 _ _) wq1233 rfl rfl rfl (by decide) dX11_servedFirst_23 (fun H locs s23 es23 hW => ?_)
  have q24 : s23 270 37 = s0 269 37 := (show s23 270 37 = s19 270 37 from by rw [es23, xU_k _ _ _ (by omega)]).trans q22
  have q25 : IMn s23 := by rw [es23]; exact IMn_268 hp20.1.1 (by omega)
  have q26 : IMk s23 := by rw [es23]; exact IMk_268 hp20.1.2.1 (by omega)
  have q27 : IMo s23 := by rw [es23]; exact IMo_o (by unfold suIMo; omega) hp20.1.2.2.1
  have q28 : s23 268 8 = s0 268 8 := (show s23 268 8 = s19 268 8 from by rw [es23, xU_j _ _ (by decide)]).trans (hp20.1.2.2.2.1.trans q10)
  have q29 : s23 268 58 = s0 268 58 := (show s23 268 58 = s19 268 58 from by rw [es23, xU_j _ _ (by decide)]).trans (hp20.1.2.2.2.2.1.trans q11)
  have hF30 := hF21.put es23 (by omega)
  refine x_aload_n hx hb hl 0 rfl dX11_servedFirst_26 rfl ?_
  refine x_get (j := 1) (v := .ref (h0 + 270)) hx hb hown hT hE hW cls_X11 (Or.inl (by decide)) (so_268 h0 g _) (by decide) rfl wq1186 dX11_servedFirst_27 ?_
  refine x_aload_n hx hb hl 0 rfl dX11_servedFirst_30 rfl ?_
  refine x_get (j := 0) (v := .ref (h0 + 269)) hx hb hown hT hE hW cls_X11 (Or.inl (by decide)) (so_268 h0 g _) (by decide) rfl wq1185 dX11_servedFirst_31 ?_
  refine x_gov (x_runS (As := [.ref (h0 + 270), .ref (h0 + 269)]) hx hb hml hown hT hE hW hl.1 cf_X11_copies wq1647 wq1646 (c_X11_copiesMB l D g T h0 s23 hW.2.1 q25 q26 q27) ⟨rfl, rfl, ⟨by decide, by decide⟩, ⟨by decide, by decide⟩⟩ rfl rfl (Nat.le_of_ble_eq_true rfl) dX11_servedFirst_34) hW (fun s32 H locs hp33 hW => ?_)
  obtain ⟨fs32, hp33⟩ := hp33
  have hF34 := hF30.call fs32 (fun k h => by omega)
  have q35 : s32 270 37 = s0 269 37 := (congrFun (fs32 _ (by omega)) _).trans q24
  have q36 : s32 268 8 = s0 268 8 := (congrFun (fs32 _ (by omega)) _).trans q28
  have q37 : s32 268 58 = s0 268 58 := (congrFun (fs32 _ (by omega)) _).trans q29
  have ghp33 := hp33.2
  have q38 : s32 269 37 = s0 269 37 := (ghp33 37 (by decide) (by decide)).trans ((congrFun (fs32 270 (by omega)) 37).symm.trans q35)
  refine x_aload_n hx hb hl 0 rfl dX11_servedFirst_37 rfl ?_
  refine x_get (j := 41) (v := .int (xJ (s32 268 41))) hx hb hown hT hE hW cls_X11 (Or.inl (by decide)) (so_268 h0 g _) (by decide) rfl wq1226 dX11_servedFirst_38 ?_
  refine x_rd hW (fun x39 ex39 rx39 => ?_)
  rw [eQ]
  exact x_iret hx hb hr hlk hW rx39 ⟨hF34, ⟨hp33.1.1, hp33.1.2.1, hp33.1.2.2.1, q36, q37, q38, trivial⟩, trivial⟩ dX11_servedFirst_41
set_option maxHeartbeats 4000000 in
set_option maxRecDepth 100000 in
theorem c_X11_firstM (l : Launch) (D : va_G) (g : xG) (T : Nat × Nat × Nat) (h0 : Nat) (s0 : xS) (hσ : xRR s0) (n : Int) (rn : xR n) (x : Int) (rx : xR x) (p0 : IMn s0) (p1 : IMk s0) (p2 : IMo s0) : Met l yX11_first (xws yX11_first cX11_first 7 (some .int)) { frames := 10, cells := 0, slots := 0, locals := 231 } (xP [.ref (h0 + 268), .int (xJ n), .int (xJ x)] D g T h0 s0) (xQi D g h0 (fun r τ => xFr (fun k => k = 268 ∨ k = 269 ∨ k = 270 ∨ k = 293 ∨ k = 294 ∨ k = 295 ∨ k = 296 ∨ k = 297 ∨ k = 298 ∨ k = 299) s0 τ ∧ (((IMn τ) ∧ (IMk τ) ∧ (IMo τ) ∧ (τ 268 8 = s0 268 8) ∧ (τ 268 58 = s0 268 58) ∧ (τ 269 37 = s0 269 37) ∧ True) ∧ (True)))) 0 0 (xA h0) := by
  refine x_met hσ (by decide) (Nat.le_of_ble_eq_true rfl) ?_
  intro p e s m args below meth c hx hb hr hml hown hT hlk hnm hE hW ls hl
  have hl : lv_has ls 7 [(0, .ref (h0 + 268)), (1, .int (xJ n)), (2, .int (xJ x))] := hl
  obtain ⟨Q, eQ⟩ : ∃ Q, Q = MQ below (xQi D g h0 (fun r τ => xFr (fun k => k = 268 ∨ k = 269 ∨ k = 270 ∨ k = 293 ∨ k = 294 ∨ k = 295 ∨ k = 296 ∨ k = 297 ∨ k = 298 ∨ k = 299) s0 τ ∧ (((IMn τ) ∧ (IMk τ) ∧ (IMo τ) ∧ (τ 268 8 = s0 268 8) ∧ (τ 268 58 = s0 268 58) ∧ (τ 269 37 = s0 269 37) ∧ True) ∧ (True)))) args s 0 0 (xA h0) := ⟨_, rfl⟩
  rw [← eQ]
  generalize hHe : ([] : List Loc) = locs at hW ⊢
  obtain ⟨H, eH⟩ : ∃ H, H = s.heap := ⟨_, rfl⟩
  rw [← eH] at hW ⊢
  have hF : xFr (fun k => k = 268 ∨ k = 269 ∨ k = 270 ∨ k = 293 ∨ k = 294 ∨ k = 295 ∨ k = 296 ∨ k = 297 ∨ k = 298 ∨ k = 299) s0 s0 := xFr.rf
  have k268_8 : s0 268 8 = s0 268 8 := rfl
  have k268_58 : s0 268 58 = s0 268 58 := rfl
  have k269_37 : s0 269 37 = s0 269 37 := rfl
  refine x_iload_n hx hb hl 1 rfl dX11_first_0 rfl ?_
  refine x_iconst hx hb dX11_first_1 ?_
  refine x_bipush hx hb dX11_first_2 (by decide) ?_
  refine x_goi (x_runS (As := [.int (xJ n), .int (xJ 1), .int (xJ 60)]) hx hb hml hown hT hE hW hl.1 cf_X11_in wq1383 wq1382 (c_X11_in l D g T h0 s0 hW.2.1 n rn 1 (by decide) 60 (by decide)) ⟨rfl, rfl, ⟨by decide, by decide⟩, ⟨by decide, by decide⟩⟩ rfl rfl (Nat.le_of_ble_eq_true rfl) dX11_first_4) hW (fun x1 s2 H locs rx1 hp3 hW => ?_)
  obtain ⟨es2, hp3⟩ := hp3
  subst es2
  have ghp3 := hp3
  refine x_if_eq (tgt := 19) hx hb rx1 dX11_first_7 (by decide) (fun c4 => ?_) (fun c4 => ?_)
  · skip
    refine x_iconst hx hb dX11_first_19 ?_
    rw [eQ]
    exact x_iret hx hb hr hlk hW (by decide) ⟨hF, ⟨p0, p1, p2, k268_8, k268_58, k269_37, trivial⟩, trivial⟩ dX11_first_20
  refine x_iload_n hx hb hl 2 rfl dX11_first_10 rfl ?_
  refine x_iconst hx hb dX11_first_11 ?_
  refine x_iconst hx hb dX11_first_12 ?_
  refine x_goi (x_runS (As := [.int (xJ x), .int (xJ 0), .int (xJ 1)]) hx hb hml hown hT hE hW hl.1 cf_X11_in wq1383 wq1382 (c_X11_in l D g T h0 s0 hW.2.1 x rx 0 (by decide) 1 (by decide)) ⟨rfl, rfl, ⟨by decide, by decide⟩, ⟨by decide, by decide⟩⟩ rfl rfl (Nat.le_of_ble_eq_true rfl) dX11_first_13) hW (fun x5 s6 H locs rx5 hp7 hW => ?_)
  obtain ⟨es6, hp7⟩ := hp7
  subst es6
  have ghp7 := hp7
  refine x_if_ne (tgt := 21) hx hb rx5 dX11_first_16 (by decide) (fun c8 => ?_) (fun c8 => ?_)
  · skip
    refine x_bipush hx hb dX11_first_21 (by decide) ?_
    refine lv_istore_n (lv' := [(3, .int (xJ (-2))), (0, .ref (h0 + 268)), (1, .int (xJ n)), (2, .int (xJ x))]) hx hb dX11_first_23 rfl hl (by decide) rfl (fun ls hl => ?_)
    refine x_aload_n hx hb hl 1 rfl dX11_first_24 rfl ?_
    refine x_iconst hx hb dX11_first_25 ?_
    refine x_iload_n hx hb hl 2 rfl dX11_first_26 rfl ?_
    refine x_goi (x_runV (As := [.int (xJ (-1)), .int (xJ n)]) hx hb hml hown hT hE hW hl.1 (Or.inl (by decide)) (so_268 h0 g _) rfl cf_X11_servedFirst wq1716 wq159 wq1714 (c_X11_servedFirstM l D g T h0 s0 hW.2.1 (-1) (by decide) n rn p0 p1 p2) ⟨rfl, rfl, ⟨by decide, by decide⟩, ⟨by decide, by decide⟩⟩ rfl rfl (Nat.le_of_ble_eq_true rfl) dX11_first_27) hW (fun x9 s10 H locs rx9 hp11 hW => ?_)
    obtain ⟨fs10, hp11⟩ := hp11
    have hF12 := hF.call fs10 (fun k h => by omega)
    have ghp11 := hp11.2
    refine lv_istore (lv' := [(4, .int (xJ x9)), (3, .int (xJ (-2))), (0, .ref (h0 + 268)), (1, .int (xJ n)), (2, .int (xJ x))]) hx hb dX11_first_30 hl (by decide) rfl (fun ls hl => ?_)
    refine x_iconst hx hb dX11_first_32 ?_
    refine lv_istore (lv' := [(5, .int (xJ 0)), (4, .int (xJ x9)), (3, .int (xJ (-2))), (0, .ref (h0 + 268)), (1, .int (xJ n)), (2, .int (xJ x))]) hx hb dX11_first_33 hl (by decide) rfl (fun ls hl => ?_)
    have L35 : ∀ (fu : Nat) (i3_35 : Int) (i4_35 : Int) (i5_35 : Int) (s_35 : xS) (H : Heap) (locs : List Loc) (ls : Array Slot), (xR i3_35) → (xR i4_35) → (xR i5_35) → (xFr (fun k => k = 268 ∨ k = 269 ∨ k = 270 ∨ k = 293 ∨ k = 294 ∨ k = 295 ∨ k = 296 ∨ k = 297 ∨ k = 298 ∨ k = 299) s0 s_35) → (IMn s_35) → (IMk s_35) → (IMo s_35) → (s_35 268 8 = s0 268 8) → (s_35 268 58 = s0 268 58) → (s_35 269 37 = s0 269 37) → (0 ≤ i5_35) → (i5_35 ≤ 10) → (10 + 1 - i5_35).toNat < fu → xW D g h0 s H locs s_35 → lv_has ls 7 [(0, .ref (h0 + 268)), (1, .int (xJ n)), (2, .int (xJ x)), (3, .int (xJ i3_35)), (4, .int (xJ i4_35)), (5, .int (xJ i5_35))] → W p l e { frames := 10, cells := 0, slots := 0, locals := 231 } s m args below meth c H locs 0 0 Q (F0 m 35 ls []) := by
      intro fu
      induction fu with
      | zero => intro i3_35 i4_35 i5_35 s_35 H locs ls ri3_35 ri4_35 ri5_35 hF_35 q35_0 q35_1 q35_2 q35_3 q35_4 q35_5 v35_0 v35_1 hm; exact absurd hm (Nat.not_lt_zero _)
      | succ fu ih35 =>
        intro i3_35 i4_35 i5_35 s_35 H locs ls ri3_35 ri4_35 ri5_35 hF_35 q35_0 q35_1 q35_2 q35_3 q35_4 q35_5 v35_0 v35_1 hm hW hl
        refine x_iload hx hb hl 5 rfl dX11_first_35 ?_
        refine x_bipush hx hb dX11_first_37 (by decide) ?_
        refine x_icmp_ge (tgt := 86) hx hb ri5_35 (by decide) dX11_first_39 (by decide) (fun c13 => ?_) (fun c13 => ?_)
        · skip
          refine x_iload_n hx hb hl 2 rfl dX11_first_86 rfl ?_
          refine x_if_ne (tgt := 94) hx hb rx dX11_first_87 (by decide) (fun c14 => ?_) (fun c14 => ?_)
          · skip
            refine x_iload hx hb hl 4 rfl dX11_first_94 ?_
            rw [eQ]
            exact x_iret hx hb hr hlk hW ri4_35 ⟨hF_35, ⟨q35_0, q35_1, q35_2, q35_3, q35_4, q35_5, trivial⟩, trivial⟩ dX11_first_96
          refine x_iload_n hx hb hl 3 rfl dX11_first_90 rfl ?_
          refine lv_goto (tgt := 96) hx hb dX11_first_91 (by decide) ?_
          rw [eQ]
          exact x_iret hx hb hr hlk hW ri3_35 ⟨hF_35, ⟨q35_0, q35_1, q35_2, q35_3, q35_4, q35_5, trivial⟩, trivial⟩ dX11_first_96
        refine x_aload_n hx hb hl 0 rfl dX11_first_42 rfl ?_
        refine x_iload hx hb hl 5 rfl dX11_first_43 ?_
        refine x_goi (x_runV (As := [.int (xJ i5_35)]) hx hb hml hown hT hE hW hl.1 (Or.inl (by decide)) (so_268 h0 g _) rfl cf_X11_owes wq1620 wq147 wq1618 (c_X11_owes l D g T h0 s_35 hW.2.1 i5_35 ri5_35 q35_0 q35_1 q35_2) ⟨rfl, rfl, ⟨by decide, by decide⟩, ⟨by decide, by decide⟩⟩ rfl rfl (Nat.le_of_ble_eq_true rfl) dX11_first_45) hW (fun x15 s16 H locs rx15 hp17 hW => ?_)
        obtain ⟨es16, hp17⟩ := hp17
        subst es16
        have ghp17 := hp17
        refine x_if_ne (tgt := 54) hx hb rx15 dX11_first_48 (by decide) (fun c18 => ?_) (fun c18 => ?_)
        · skip
          refine x_aload_n hx hb hl 0 rfl dX11_first_54 rfl ?_
          refine x_iload hx hb hl 5 rfl dX11_first_55 ?_
          refine x_iload_n hx hb hl 1 rfl dX11_first_57 rfl ?_
          refine x_goi (x_runV (As := [.int (xJ i5_35), .int (xJ n)]) hx hb hml hown hT hE hW hl.1 (Or.inl (by decide)) (so_268 h0 g _) rfl cf_X11_servedFirst wq1716 wq159 wq1714 (c_X11_servedFirstM l D g T h0 s_35 hW.2.1 i5_35 ri5_35 n rn q35_0 q35_1 q35_2) ⟨rfl, rfl, ⟨by decide, by decide⟩, ⟨by decide, by decide⟩⟩ rfl rfl (Nat.le_of_ble_eq_true rfl) dX11_first_58) hW (fun x19 s20 H locs rx19 hp21 hW => ?_)
          obtain ⟨fs20, hp21⟩ := hp21
          have hF22 := hF_35.call fs20 (fun k h => by omega)
          have ghp21 := hp21.2
          refine lv_istore (lv' := [(6, .int (xJ x19)), (0, .ref (h0 + 268)), (1, .int (xJ n)), (2, .int (xJ x)), (3, .int (xJ i3_35)), (4, .int (xJ i4_35)), (5, .int (xJ i5_35))]) hx hb dX11_first_61 hl (by decide) rfl (fun ls hl => ?_)
          refine x_iload hx hb hl 0 rfl dX11_first_63 ?_
          refine x_iload hx hb hl 5 rfl dX11_first_65 ?_
          refine x_icmp_gt (tgt := 73) hx hb rx19 ri4_35 dX11_first_67 (by decide) (fun c23 => ?_) (fun c23 => ?_)
          · skip
            refine x_iload hx hb hl 0 rfl dX11_first_73 ?_
            refine lv_istore (lv' := [(4, .int (xJ x19)), (6, .int (xJ x19)), (0, .ref (h0 + 268)), (1, .int (xJ n)), (2, .int (xJ x)), (3, .int (xJ i3_35)), (5, .int (xJ i5_35))]) hx hb dX11_first_75 hl (by decide) rfl (fun ls hl => ?_)
            refine x_iload hx hb hl 6 rfl dX11_first_77 ?_
            refine lv_istore_n (lv' := [(3, .int (xJ i5_35)), (4, .int (xJ x19)), (6, .int (xJ x19)), (0, .ref (h0 + 268)), (1, .int (xJ n)), (2, .int (xJ x)), (5, .int (xJ i5_35))]) hx hb dX11_first_79 rfl hl (by decide) rfl (fun ls hl => ?_)
            refine x_iinc (lv' := [(5, .int (xJ (i5_35 + 1))), (3, .int (xJ i5_35)), (4, .int (xJ x19)), (6, .int (xJ x19)), (0, .ref (h0 + 268)), (1, .int (xJ n)), (2, .int (xJ x))]) hx hb hl 6 rfl dX11_first_80 (by decide) rfl (fun ls hl => ?_)
            refine lv_goto (tgt := 35) hx hb dX11_first_83 (by decide) ?_
            exact ih35 i5_35 x19 (i5_35 + 1) s20 H locs ls ri5_35 rx19 (by omega) hF22 hp21.1.1 hp21.1.2.1 hp21.1.2.2.1 (hp21.1.2.2.2.1.trans q35_3) (hp21.1.2.2.2.2.1.trans q35_4) (hp21.1.2.2.2.2.2.1.trans q35_5) (by omega) (by omega) (by omega) hW (lv_sub hl [4, 5, 6, 1, 2, 0] rfl)
          refine lv_goto (tgt := 80) hx hb dX11_first_70 (by decide) ?_
          refine x_iinc (lv' := [(5, .int (xJ (i5_35 + 1))), (6, .int (xJ x19)), (0, .ref (h0 + 268)), (1, .int (xJ n)), (2, .int (xJ x)), (3, .int (xJ i3_35)), (4, .int (xJ i4_35))]) hx hb hl 6 rfl dX11_first_80 (by decide) rfl (fun ls hl => ?_)
          refine lv_goto (tgt := 35) hx hb dX11_first_83 (by decide) ?_
          exact ih35 i3_35 i4_35 (i5_35 + 1) s20 H locs ls ri3_35 ri4_35 (by omega) hF22 hp21.1.1 hp21.1.2.1 hp21.1.2.2.1 (hp21.1.2.2.2.1.trans q35_3) (hp21.1.2.2.2.2.1.trans q35_4) (hp21.1.2.2.2.2.2.1.trans q35_5) (by omega) (by omega) (by omega) hW (lv_sub hl [2, 3, 4, 5, 6, 0] rfl)
        refine lv_goto (tgt := 80) hx hb dX11_first_51 (by decide) ?_
        refine x_iinc (lv' := [(5, .int (xJ (i5_35 + 1))), (0, .ref (h0 + 268)), (1, .int (xJ n)), (2, .int (xJ x)), (3, .int (xJ i3_35)), (4, .int (xJ i4_35))]) hx hb hl 5 rfl dX11_first_80 (by decide) rfl (fun ls hl => ?_)
        refine lv_goto (tgt := 35) hx hb dX11_first_83 (by decide) ?_
        exact ih35 i3_35 i4_35 (i5_35 + 1) s_35 H locs ls ri3_35 ri4_35 (by omega) hF_35 q35_0 q35_1 q35_2 q35_3 q35_4 q35_5 (by omega) (by omega) (by omega) hW (lv_sub hl [1, 2, 3, 4, 5, 0] rfl)
    exact L35 ((10 + 1 - 0 : Int).toNat + 1) (-2) x9 0 s10 H locs ls (by decide) rx9 (by decide) hF12 hp11.1.1 hp11.1.2.1 hp11.1.2.2.1 (hp11.1.2.2.2.1.trans k268_8) (hp11.1.2.2.2.2.1.trans k268_58) (hp11.1.2.2.2.2.2.1.trans k269_37) (by omega) (by omega) (Nat.lt_succ_self _) hW (lv_sub hl [3, 4, 5, 2, 1, 0] rfl)
  refine x_iconst hx hb dX11_first_19 ?_
  rw [eQ]
  exact x_iret hx hb hr hlk hW (by decide) ⟨hF, ⟨p0, p1, p2, k268_8, k268_58, k269_37, trivial⟩, trivial⟩ dX11_first_20
set_option maxHeartbeats 4000000 in
set_option maxRecDepth 100000 in
theorem c_X11_laysDarkM (l : Launch) (D : va_G) (g : xG) (T : Nat × Nat × Nat) (h0 : Nat) (s0 : xS) (hσ : xRR s0) (n : Int) (rn : xR n) (hn : 1 ≤ n ∧ n ≤ 60) (p0 : IMn s0) (p1 : IMk s0) (p2 : IMo s0) : Met l yX11_laysDark (xws yX11_laysDark cX11_laysDark 4 none) { frames := 5, cells := 0, slots := 0, locals := 114 } (xP [.ref (h0 + 268), .int (xJ n)] D g T h0 s0) (xQv D g h0 (fun τ => xFr (fun k => k = 269 ∨ k = 270 ∨ k = 293 ∨ k = 294 ∨ k = 295 ∨ k = 305) s0 τ ∧ (((IMn τ) ∧ (IMk τ) ∧ (IMo τ) ∧ (τ 269 37 = s0 269 37) ∧ True) ∧ (True)))) 0 0 (xA h0) := by
  refine x_met hσ (by decide) (Nat.le_of_ble_eq_true rfl) ?_
  intro p e s m args below meth c hx hb hr hml hown hT hlk hnm hE hW ls hl
  have hl : lv_has ls 4 [(0, .ref (h0 + 268)), (1, .int (xJ n))] := hl
  obtain ⟨Q, eQ⟩ : ∃ Q, Q = MQ below (xQv D g h0 (fun τ => xFr (fun k => k = 269 ∨ k = 270 ∨ k = 293 ∨ k = 294 ∨ k = 295 ∨ k = 305) s0 τ ∧ (((IMn τ) ∧ (IMk τ) ∧ (IMo τ) ∧ (τ 269 37 = s0 269 37) ∧ True) ∧ (True)))) args s 0 0 (xA h0) := ⟨_, rfl⟩
  rw [← eQ]
  generalize hHe : ([] : List Loc) = locs at hW ⊢
  obtain ⟨H, eH⟩ : ∃ H, H = s.heap := ⟨_, rfl⟩
  rw [← eH] at hW ⊢
  have hF : xFr (fun k => k = 269 ∨ k = 270 ∨ k = 293 ∨ k = 294 ∨ k = 295 ∨ k = 305) s0 s0 := xFr.rf
  have k268_8 : s0 268 8 = s0 268 8 := rfl
  have k268_58 : s0 268 58 = s0 268 58 := rfl
  have k269_37 : s0 269 37 = s0 269 37 := rfl
  refine x_iconst hx hb dX11_laysDark_0 ?_
  refine lv_istore_n (lv' := [(2, .int (xJ 0)), (0, .ref (h0 + 268)), (1, .int (xJ n))]) hx hb dX11_laysDark_1 rfl hl (by decide) rfl (fun ls hl => ?_)
  have L2 : ∀ (fu : Nat) (i2_2 : Int) (s_2 : xS) (H : Heap) (locs : List Loc) (ls : Array Slot), (xR i2_2) → (xFr (fun k => k = 269 ∨ k = 270 ∨ k = 293 ∨ k = 294 ∨ k = 295 ∨ k = 305) s0 s_2) → (IMn s_2) → (IMk s_2) → (IMo s_2) → (s_2 268 8 = s0 268 8) → (s_2 268 58 = s0 268 58) → (s_2 269 37 = s0 269 37) → (0 ≤ i2_2) → (i2_2 ≤ 100) → (100 + 1 - i2_2).toNat < fu → xW D g h0 s H locs s_2 → lv_has ls 4 [(0, .ref (h0 + 268)), (1, .int (xJ n)), (2, .int (xJ i2_2))] → W p l e { frames := 5, cells := 0, slots := 0, locals := 114 } s m args below meth c H locs 0 0 Q (F0 m 2 ls []) := by
    intro fu
    induction fu with
    | zero => intro i2_2 s_2 H locs ls ri2_2 hF_2 q2_0 q2_1 q2_2 q2_3 q2_4 q2_5 v2_0 v2_1 hm; exact absurd hm (Nat.not_lt_zero _)
    | succ fu ih2 =>
      intro i2_2 s_2 H locs ls ri2_2 hF_2 q2_0 q2_1 q2_2 q2_3 q2_4 q2_5 v2_0 v2_1 hm hW hl
      refine x_iload_n hx hb hl 2 rfl dX11_laysDark_2 rfl ?_
      refine x_bipush hx hb dX11_laysDark_3 (by decide) ?_
      refine x_icmp_ge (tgt := 21) hx hb ri2_2 (by decide) dX11_laysDark_5 (by decide) (fun c1 => ?_) (fun c1 => ?_)
      · skip
        refine x_aload_n hx hb hl 0 rfl dX11_laysDark_21 rfl ?_
        refine x_get (j := 0) (v := .ref (h0 + 269)) hx hb hown hT hE hW cls_X11 (Or.inl (by decide)) (so_268 h0 g _) (by decide) rfl wq1185 dX11_laysDark_22 ?_
        refine x_aload_n hx hb hl 0 rfl dX11_laysDark_25 rfl ?_
        refine x_get (j := 1) (v := .ref (h0 + 270)) hx hb hown hT hE hW cls_X11 (Or.inl (by decide)) (so_268 h0 g _) (by decide) rfl wq1186 dX11_laysDark_26 ?_
        refine x_gov (x_runS (As := [.ref (h0 + 269), .ref (h0 + 270)]) hx hb hml hown hT hE hW hl.1 cf_X11_copies wq1647 wq1646 (c_X11_copiesMA l D g T h0 s_2 hW.2.1 q2_0 q2_1 q2_2) ⟨rfl, rfl, ⟨by decide, by decide⟩, ⟨by decide, by decide⟩⟩ rfl rfl (Nat.le_of_ble_eq_true rfl) dX11_laysDark_29) hW (fun s3 H locs hp4 hW => ?_)
        obtain ⟨fs3, hp4⟩ := hp4
        have hF5 := hF_2.call fs3 (fun k h => by omega)
        have q6 : s3 268 8 = s0 268 8 := (congrFun (fs3 _ (by omega)) _).trans q2_3
        have q7 : s3 268 58 = s0 268 58 := (congrFun (fs3 _ (by omega)) _).trans q2_4
        have q8 : s3 269 37 = s0 269 37 := (congrFun (fs3 _ (by omega)) _).trans q2_5
        have ghp4 := hp4.2
        have q9 : s3 270 37 = s0 269 37 := (ghp4 37 (by decide) (by decide)).trans ((congrFun (fs3 269 (by omega)) 37).symm.trans q8)
        refine x_iconst hx hb dX11_laysDark_32 ?_
        refine lv_istore_n (lv' := [(2, .int (xJ 0)), (0, .ref (h0 + 268)), (1, .int (xJ n))]) hx hb dX11_laysDark_33 rfl hl (by decide) rfl (fun ls hl => ?_)
        have L34 : ∀ (fu : Nat) (i2_34 : Int) (s_34 : xS) (H : Heap) (locs : List Loc) (ls : Array Slot), (xR i2_34) → (xFr (fun k => k = 269 ∨ k = 270 ∨ k = 293 ∨ k = 294 ∨ k = 295 ∨ k = 305) s0 s_34) → (s_34 268 8 = s0 268 8) → (s_34 268 58 = s0 268 58) → (s_34 269 37 = s0 269 37) → (IMn s_34) → (IMk s_34) → (IMo s_34) → (s_34 270 37 = s0 269 37) → (0 ≤ i2_34) → (n + 1 - i2_34).toNat < fu → xW D g h0 s H locs s_34 → lv_has ls 4 [(0, .ref (h0 + 268)), (1, .int (xJ n)), (2, .int (xJ i2_34))] → W p l e { frames := 5, cells := 0, slots := 0, locals := 114 } s m args below meth c H locs 0 0 Q (F0 m 34 ls []) := by
          intro fu
          induction fu with
          | zero => intro i2_34 s_34 H locs ls ri2_34 hF_34 q34_0 q34_1 q34_2 q34_3 q34_4 q34_5 q34_6 v34_0 hm; exact absurd hm (Nat.not_lt_zero _)
          | succ fu ih34 =>
            intro i2_34 s_34 H locs ls ri2_34 hF_34 q34_0 q34_1 q34_2 q34_3 q34_4 q34_5 q34_6 v34_0 hm hW hl
            refine x_iload_n hx hb hl 2 rfl dX11_laysDark_34 rfl ?_
            refine x_iload_n hx hb hl 1 rfl dX11_laysDark_35 rfl ?_
            refine x_icmp_ge (tgt := 135) hx hb ri2_34 rn dX11_laysDark_36 (by decide) (fun c10 => ?_) (fun c10 => ?_)
            · skip
              refine x_aload_n hx hb hl 0 rfl dX11_laysDark_135 rfl ?_
              refine x_get (j := 1) (v := .ref (h0 + 270)) hx hb hown hT hE hW cls_X11 (Or.inl (by decide)) (so_268 h0 g _) (by decide) rfl wq1186 dX11_laysDark_136 ?_
              refine x_aload_n hx hb hl 0 rfl dX11_laysDark_139 rfl ?_
              refine x_get (j := 0) (v := .ref (h0 + 269)) hx hb hown hT hE hW cls_X11 (Or.inl (by decide)) (so_268 h0 g _) (by decide) rfl wq1185 dX11_laysDark_140 ?_
              refine x_gov (x_runS (As := [.ref (h0 + 270), .ref (h0 + 269)]) hx hb hml hown hT hE hW hl.1 cf_X11_copies wq1647 wq1646 (c_X11_copiesMB l D g T h0 s_34 hW.2.1 q34_3 q34_4 q34_5) ⟨rfl, rfl, ⟨by decide, by decide⟩, ⟨by decide, by decide⟩⟩ rfl rfl (Nat.le_of_ble_eq_true rfl) dX11_laysDark_143) hW (fun s12 H locs hp13 hW => ?_)
              obtain ⟨fs12, hp13⟩ := hp13
              have hF14 := hF_34.call fs12 (fun k h => by omega)
              have q15 : s12 268 8 = s0 268 8 := (congrFun (fs12 _ (by omega)) _).trans q34_0
              have q16 : s12 268 58 = s0 268 58 := (congrFun (fs12 _ (by omega)) _).trans q34_1
              have q17 : s12 270 37 = s0 269 37 := (congrFun (fs12 _ (by omega)) _).trans q34_6
              have ghp13 := hp13.2
              have q18 : s12 269 37 = s0 269 37 := (ghp13 37 (by decide) (by decide)).trans ((congrFun (fs12 270 (by omega)) 37).symm.trans q17)
              rw [eQ]
              exact x_vret hx hb hr hlk hW ⟨hF14, ⟨hp13.1.1, hp13.1.2.1, hp13.1.2.2.1, q18, trivial⟩, trivial⟩ dX11_laysDark_146
            refine x_aload_n hx hb hl 0 rfl dX11_laysDark_39 rfl ?_
            refine x_iconst hx hb dX11_laysDark_40 ?_
            refine x_gov (x_runV (As := [.int (xJ 0)]) hx hb hml hown hT hE hW hl.1 (Or.inl (by decide)) (so_268 h0 g _) rfl cf_X11_walksOn wq1547 wq132 wq1545 (c_X11_walksOn l D g T h0 s_34 hW.2.1 0 (by decide) (by omega) q34_3 q34_4 q34_5) ⟨rfl, rfl, ⟨by decide, by decide⟩, ⟨by decide, by decide⟩⟩ rfl rfl (Nat.le_of_ble_eq_true rfl) dX11_laysDark_41) hW (fun s20 H locs hp21 hW => ?_)
            obtain ⟨fs20, hp21⟩ := hp21
            have hF22 := hF_34.call fs20 (fun k h => by omega)
            have q23 : s20 268 8 = s0 268 8 := (congrFun (fs20 _ (by omega)) _).trans q34_0
            have q24 : s20 268 58 = s0 268 58 := (congrFun (fs20 _ (by omega)) _).trans q34_1
            have q25 : s20 270 37 = s0 269 37 := (congrFun (fs20 _ (by omega)) _).trans q34_6
            have ghp21 := hp21.2
            refine x_aload_n hx hb hl 0 rfl dX11_laysDark_44 rfl ?_
            refine x_iconst hx hb dX11_laysDark_45 ?_
            refine x_gov (x_runV (As := [.int (xJ 1)]) hx hb hml hown hT hE hW hl.1 (Or.inl (by decide)) (so_268 h0 g _) rfl cf_X11_walksOn wq1547 wq132 wq1545 (c_X11_walksOn l D g T h0 s20 hW.2.1 1 (by decide) (by omega) hp21.1.1 hp21.1.2.1 hp21.1.2.2.1) ⟨rfl, rfl, ⟨by decide, by decide⟩, ⟨by decide, by decide⟩⟩ rfl rfl (Nat.le_of_ble_eq_true rfl) dX11_laysDark_46) hW (fun s27 H locs hp28 hW => ?_)
            obtain ⟨fs27, hp28⟩ := hp28
            have hF29 := hF22.call fs27 (fun k h => by omega)
            have q30 : s27 268 8 = s0 268 8 := (congrFun (fs27 _ (by omega)) _).trans q23
            have q31 : s27 268 58 = s0 268 58 := (congrFun (fs27 _ (by omega)) _).trans q24
            have q32 : s27 270 37 = s0 269 37 := (congrFun (fs27 _ (by omega)) _).trans q25
            have ghp28 := hp28.2
            refine x_aload_n hx hb hl 0 rfl dX11_laysDark_49 rfl ?_
            refine x_gov (x_runV (As := []) hx hb hml hown hT hE hW hl.1 (Or.inl (by decide)) (so_268 h0 g _) rfl cf_X11_bares wq1592 wq140 wq1590 (c_X11_bares l D g T h0 s27 hW.2.1 hp28.1.1 hp28.1.2.1 hp28.1.2.2.1) ⟨rfl, rfl, ⟨by decide, by decide⟩, ⟨by decide, by decide⟩⟩ rfl rfl (Nat.le_of_ble_eq_true rfl) dX11_laysDark_50) hW (fun s34 H locs hp35 hW => ?_)
            obtain ⟨fs34, hp35⟩ := hp35
            have hF36 := hF29.call fs34 (fun k h => by omega)
            have q37 : s34 268 8 = s0 268 8 := (congrFun (fs34 _ (by omega)) _).trans q30
            have q38 : s34 268 58 = s0 268 58 := (congrFun (fs34 _ (by omega)) _).trans q31
            have q39 : s34 270 37 = s0 269 37 := (congrFun (fs34 _ (by omega)) _).trans q32
            have q40 : s34 269 37 = s0 269 37 := (congrFun (fs34 _ (by omega)) _).trans (hp28.1.2.2.2.1.trans (hp21.1.2.2.2.1.trans q34_2))
            have ghp35 := hp35.2
            refine x_iconst hx hb dX11_laysDark_53 ?_
            refine lv_istore_n (lv' := [(3, .int (xJ 0)), (0, .ref (h0 + 268)), (1, .int (xJ n)), (2, .int (xJ i2_34))]) hx hb dX11_laysDark_54 rfl hl (by decide) rfl (fun ls hl => ?_)
            have L55 : ∀ (fu : Nat) (i3_55 : Int) (s_55 : xS) (H : Heap) (locs : List Loc) (ls : Array Slot), (xR i3_55) → (xFr (fun k => k = 269 ∨ k = 270 ∨ k = 293 ∨ k = 294 ∨ k = 295 ∨ k = 305) s0 s_55) → (s_55 268 8 = s0 268 8) → (s_55 268 58 = s0 268 58) → (s_55 270 37 = s0 269 37) → (s_55 269 37 = s0 269 37) → (IMn s_55) → (IMk s_55) → (IMo s_55) → (0 ≤ i3_55) → (i3_55 ≤ 2) → (2 + 1 - i3_55).toNat < fu → xW D g h0 s H locs s_55 → lv_has ls 4 [(0, .ref (h0 + 268)), (1, .int (xJ n)), (2, .int (xJ i2_34)), (3, .int (xJ i3_55))] → W p l e { frames := 5, cells := 0, slots := 0, locals := 114 } s m args below meth c H locs 0 0 Q (F0 m 55 ls []) := by
              intro fu
              induction fu with
              | zero => intro i3_55 s_55 H locs ls ri3_55 hF_55 q55_0 q55_1 q55_2 q55_3 q55_4 q55_5 q55_6 v55_0 v55_1 hm; exact absurd hm (Nat.not_lt_zero _)
              | succ fu ih55 =>
                intro i3_55 s_55 H locs ls ri3_55 hF_55 q55_0 q55_1 q55_2 q55_3 q55_4 q55_5 q55_6 v55_0 v55_1 hm hW hl
                refine x_iload_n hx hb hl 3 rfl dX11_laysDark_55 rfl ?_
                refine x_iconst hx hb dX11_laysDark_56 ?_
                refine x_icmp_ge (tgt := 88) hx hb ri3_55 (by decide) dX11_laysDark_57 (by decide) (fun c41 => ?_) (fun c41 => ?_)
                · skip
                  refine x_iconst hx hb dX11_laysDark_88 ?_
                  refine lv_istore_n (lv' := [(3, .int (xJ 0)), (0, .ref (h0 + 268)), (1, .int (xJ n)), (2, .int (xJ i2_34))]) hx hb dX11_laysDark_89 rfl hl (by decide) rfl (fun ls hl => ?_)
                  have L90 : ∀ (fu : Nat) (i3_90 : Int) (s_90 : xS) (H : Heap) (locs : List Loc) (ls : Array Slot), (xR i3_90) → (xFr (fun k => k = 269 ∨ k = 270 ∨ k = 293 ∨ k = 294 ∨ k = 295 ∨ k = 305) s0 s_90) → (s_90 268 8 = s0 268 8) → (s_90 268 58 = s0 268 58) → (s_90 270 37 = s0 269 37) → (s_90 269 37 = s0 269 37) → (IMn s_90) → (IMk s_90) → (IMo s_90) → (0 ≤ i3_90) → (i3_90 ≤ 100) → (100 + 1 - i3_90).toNat < fu → xW D g h0 s H locs s_90 → lv_has ls 4 [(0, .ref (h0 + 268)), (1, .int (xJ n)), (2, .int (xJ i2_34)), (3, .int (xJ i3_90))] → W p l e { frames := 5, cells := 0, slots := 0, locals := 114 } s m args below meth c H locs 0 0 Q (F0 m 90 ls []) := by
                    intro fu
                    induction fu with
                    | zero => intro i3_90 s_90 H locs ls ri3_90 hF_90 q90_0 q90_1 q90_2 q90_3 q90_4 q90_5 q90_6 v90_0 v90_1 hm; exact absurd hm (Nat.not_lt_zero _)
                    | succ fu ih90 =>
                      intro i3_90 s_90 H locs ls ri3_90 hF_90 q90_0 q90_1 q90_2 q90_3 q90_4 q90_5 q90_6 v90_0 v90_1 hm hW hl
                      refine x_iload_n hx hb hl 3 rfl dX11_laysDark_90 rfl ?_
                      refine x_bipush hx hb dX11_laysDark_91 (by decide) ?_
                      refine x_icmp_ge (tgt := 129) hx hb ri3_90 (by decide) dX11_laysDark_93 (by decide) (fun c42 => ?_) (fun c42 => ?_)
                      · skip
                        refine x_iinc (lv' := [(2, .int (xJ (i2_34 + 1))), (0, .ref (h0 + 268)), (1, .int (xJ n)), (3, .int (xJ i3_90))]) hx hb hl 2 rfl dX11_laysDark_129 (by decide) rfl (fun ls hl => ?_)
                        refine lv_goto (tgt := 34) hx hb dX11_laysDark_132 (by decide) ?_
                        exact ih34 (i2_34 + 1) s_90 H locs ls (by omega) hF_90 q90_0 q90_1 q90_3 q90_4 q90_5 q90_6 q90_2 (by omega) (by omega) hW (lv_sub hl [1, 2, 0] rfl)
                      refine x_aload_n hx hb hl 0 rfl dX11_laysDark_96 rfl ?_
                      refine x_get (j := 55) (v := .ref (h0 + 305)) hx hb hown hT hE hW cls_X11 (Or.inl (by decide)) (so_268 h0 g _) (by decide) rfl wq1240 dX11_laysDark_97 ?_
                      refine x_iload_n hx hb hl 3 rfl dX11_laysDark_100 rfl ?_
                      refine x_aload_n hx hb hl 0 rfl dX11_laysDark_101 rfl ?_
                      refine x_get (j := 55) (v := .ref (h0 + 305)) hx hb hown hT hE hW cls_X11 (Or.inl (by decide)) (so_268 h0 g _) (by decide) rfl wq1240 dX11_laysDark_102 ?_
                      refine x_iload_n hx hb hl 3 rfl dX11_laysDark_105 rfl ?_
                      refine x_iald hx hb hE hW (Or.inl (by decide)) (sa_305 h0 g _) (by omega) (by decide) dX11_laysDark_106 ?_
                      refine x_rd hW (fun x43 ex43 rx43 => ?_)
                      refine x_aload_n hx hb hl 0 rfl dX11_laysDark_107 rfl ?_
                      refine x_get (j := 40) (v := .ref (h0 + 295)) hx hb hown hT hE hW cls_X11 (Or.inl (by decide)) (so_268 h0 g _) (by decide) rfl wq1225 dX11_laysDark_108 ?_
                      refine x_iload_n hx hb hl 3 rfl dX11_laysDark_111 rfl ?_
                      refine x_iald hx hb hE hW (Or.inl (by decide)) (sa_295 h0 g _) (by omega) (by decide) dX11_laysDark_112 ?_
                      refine x_rd hW (fun x44 ex44 rx44 => ?_)
                      refine x_if_le (tgt := 120) hx hb rx44 dX11_laysDark_113 (by decide) (fun c45 => ?_) (fun c45 => ?_)
                      · skip
                        refine x_iconst hx hb dX11_laysDark_120 ?_
                        refine x_iadd hx hb dX11_laysDark_121 ?_
                        refine x_any (fun x46 rx46 => ?_)
                        refine x_iast hx hb hE hW (by decide) (fun σ => sa_305 h0 g σ) (by omega) (by decide) rx46 dX11_laysDark_122 (fun H locs s47 es47 hW => ?_)
                        have q48 : s47 268 8 = s0 268 8 := (show s47 268 8 = s_90 268 8 from by rw [es47, xU_k _ _ _ (by omega)]).trans q90_0
                        have q49 : s47 268 58 = s0 268 58 := (show s47 268 58 = s_90 268 58 from by rw [es47, xU_k _ _ _ (by omega)]).trans q90_1
                        have q50 : s47 270 37 = s0 269 37 := (show s47 270 37 = s_90 270 37 from by rw [es47, xU_k _ _ _ (by omega)]).trans q90_2
                        have q51 : s47 269 37 = s0 269 37 := (show s47 269 37 = s_90 269 37 from by rw [es47, xU_k _ _ _ (by omega)]).trans q90_3
                        have q52 : IMn s47 := by rw [es47]; exact IMn_o (by unfold suIMn; omega) q90_4
                        have q53 : IMk s47 := by rw [es47]; exact IMk_o (by unfold suIMk; omega) q90_5
                        have q54 : IMo s47 := by rw [es47]; exact IMo_o (by unfold suIMo; omega) q90_6
                        have hF55 := hF_90.put es47 (by omega)
                        refine x_iinc (lv' := [(3, .int (xJ (i3_90 + 1))), (0, .ref (h0 + 268)), (1, .int (xJ n)), (2, .int (xJ i2_34))]) hx hb hl 3 rfl dX11_laysDark_123 (by decide) rfl (fun ls hl => ?_)
                        refine lv_goto (tgt := 90) hx hb dX11_laysDark_126 (by decide) ?_
                        exact ih90 (i3_90 + 1) s47 H locs ls (by omega) hF55 q48 q49 q50 q51 q52 q53 q54 (by omega) (by omega) (by omega) hW (lv_sub hl [1, 2, 3, 0] rfl)
                      refine x_iconst hx hb dX11_laysDark_116 ?_
                      refine lv_goto (tgt := 121) hx hb dX11_laysDark_117 (by decide) ?_
                      refine x_iadd hx hb dX11_laysDark_121 ?_
                      refine x_any (fun x56 rx56 => ?_)
                      refine x_iast hx hb hE hW (by decide) (fun σ => sa_305 h0 g σ) (by omega) (by decide) rx56 dX11_laysDark_122 (fun H locs s57 es57 hW => ?_)
                      have q58 : s57 268 8 = s0 268 8 := (show s57 268 8 = s_90 268 8 from by rw [es57, xU_k _ _ _ (by omega)]).trans q90_0
                      have q59 : s57 268 58 = s0 268 58 := (show s57 268 58 = s_90 268 58 from by rw [es57, xU_k _ _ _ (by omega)]).trans q90_1
                      have q60 : s57 270 37 = s0 269 37 := (show s57 270 37 = s_90 270 37 from by rw [es57, xU_k _ _ _ (by omega)]).trans q90_2
                      have q61 : s57 269 37 = s0 269 37 := (show s57 269 37 = s_90 269 37 from by rw [es57, xU_k _ _ _ (by omega)]).trans q90_3
                      have q62 : IMn s57 := by rw [es57]; exact IMn_o (by unfold suIMn; omega) q90_4
                      have q63 : IMk s57 := by rw [es57]; exact IMk_o (by unfold suIMk; omega) q90_5
                      have q64 : IMo s57 := by rw [es57]; exact IMo_o (by unfold suIMo; omega) q90_6
                      have hF65 := hF_90.put es57 (by omega)
                      refine x_iinc (lv' := [(3, .int (xJ (i3_90 + 1))), (0, .ref (h0 + 268)), (1, .int (xJ n)), (2, .int (xJ i2_34))]) hx hb hl 3 rfl dX11_laysDark_123 (by decide) rfl (fun ls hl => ?_)
                      refine lv_goto (tgt := 90) hx hb dX11_laysDark_126 (by decide) ?_
                      exact ih90 (i3_90 + 1) s57 H locs ls (by omega) hF65 q58 q59 q60 q61 q62 q63 q64 (by omega) (by omega) (by omega) hW (lv_sub hl [1, 2, 3, 0] rfl)
                  exact L90 ((100 + 1 - 0 : Int).toNat + 1) 0 s_55 H locs ls (by decide) hF_55 q55_0 q55_1 q55_2 q55_3 q55_4 q55_5 q55_6 (by omega) (by omega) (Nat.lt_succ_self _) hW (lv_sub hl [1, 2, 3, 0] rfl)
                refine x_aload_n hx hb hl 0 rfl dX11_laysDark_60 rfl ?_
                refine x_iload_n hx hb hl 3 rfl dX11_laysDark_61 rfl ?_
                refine x_goi (x_runV (As := [.int (xJ i3_55)]) hx hb hml hown hT hE hW hl.1 (Or.inl (by decide)) (so_268 h0 g _) rfl cf_X11_isJudge wq1409 wq109 wq1407 (c_X11_isJudge l D g T h0 s_55 hW.2.1 i3_55 ri3_55 q55_4 q55_5 q55_6) ⟨rfl, rfl, ⟨by decide, by decide⟩, ⟨by decide, by decide⟩⟩ rfl rfl (Nat.le_of_ble_eq_true rfl) dX11_laysDark_62) hW (fun x66 s67 H locs rx66 hp68 hW => ?_)
                obtain ⟨es67, hp68⟩ := hp68
                subst es67
                have ghp68 := hp68
                refine x_if_eq (tgt := 82) hx hb rx66 dX11_laysDark_65 (by decide) (fun c69 => ?_) (fun c69 => ?_)
                · skip
                  refine x_iinc (lv' := [(3, .int (xJ (i3_55 + 1))), (0, .ref (h0 + 268)), (1, .int (xJ n)), (2, .int (xJ i2_34))]) hx hb hl 3 rfl dX11_laysDark_82 (by decide) rfl (fun ls hl => ?_)
                  refine lv_goto (tgt := 55) hx hb dX11_laysDark_85 (by decide) ?_
                  exact ih55 (i3_55 + 1) s_55 H locs ls (by omega) hF_55 q55_0 q55_1 q55_2 q55_3 q55_4 q55_5 q55_6 (by omega) (by omega) (by omega) hW (lv_sub hl [1, 2, 3, 0] rfl)
                refine x_aload_n hx hb hl 0 rfl dX11_laysDark_68 rfl ?_
                refine x_iload_n hx hb hl 3 rfl dX11_laysDark_69 rfl ?_
                refine x_aload_n hx hb hl 0 rfl dX11_laysDark_70 rfl ?_
                refine x_get (j := 1) (v := .ref (h0 + 270)) hx hb hown hT hE hW cls_X11 (Or.inl (by decide)) (so_268 h0 g _) (by decide) rfl wq1186 dX11_laysDark_71 ?_
                refine x_bipush hx hb dX11_laysDark_74 (by decide) ?_
                refine x_iald hx hb hE hW (Or.inl (by decide)) (sa_270 h0 g _) ⟨by decide, by decide⟩ (by decide) dX11_laysDark_76 ?_
                refine x_rd hW (fun x70 ex70 rx70 => ?_)
                have bx70 : 0 ≤ x70 ∧ x70 ≤ 9999 := by rw [ex70]; exact (IMn.n2 q55_4).2.2.2.1
                have fx70 : x70 = s0 269 37 := ex70.trans q55_2
                refine x_iload_n hx hb hl 2 rfl dX11_laysDark_77 rfl ?_
                refine x_iadd hx hb dX11_laysDark_78 ?_
                refine x_gov (x_runV (As := [.int (xJ i3_55), .int (xJ (x70 + i2_34))]) hx hb hml hown hT hE hW hl.1 (Or.inl (by decide)) (so_268 h0 g _) rfl cf_X11_fallsOf wq1596 wq141 wq1594 (c_X11_fallsOf l D g T h0 s_55 hW.2.1 i3_55 ri3_55 (x70 + i2_34) (by omega) (by omega) q55_4 q55_5 q55_6) ⟨rfl, rfl, ⟨by decide, by decide⟩, ⟨by decide, by decide⟩⟩ rfl rfl (Nat.le_of_ble_eq_true rfl) dX11_laysDark_79) hW (fun s72 H locs hp73 hW => ?_)
                obtain ⟨fs72, hp73⟩ := hp73
                have hF74 := hF_55.call fs72 (fun k h => by omega)
                have q75 : s72 268 8 = s0 268 8 := (congrFun (fs72 _ (by omega)) _).trans q55_0
                have q76 : s72 268 58 = s0 268 58 := (congrFun (fs72 _ (by omega)) _).trans q55_1
                have q77 : s72 270 37 = s0 269 37 := (congrFun (fs72 _ (by omega)) _).trans q55_2
                have q78 : s72 269 37 = s0 269 37 := (congrFun (fs72 _ (by omega)) _).trans q55_3
                have ghp73 := hp73.2
                refine x_iinc (lv' := [(3, .int (xJ (i3_55 + 1))), (0, .ref (h0 + 268)), (1, .int (xJ n)), (2, .int (xJ i2_34))]) hx hb hl 3 rfl dX11_laysDark_82 (by decide) rfl (fun ls hl => ?_)
                refine lv_goto (tgt := 55) hx hb dX11_laysDark_85 (by decide) ?_
                exact ih55 (i3_55 + 1) s72 H locs ls (by omega) hF74 q75 q76 q77 q78 hp73.1.1 hp73.1.2.1 hp73.1.2.2.1 (by omega) (by omega) (by omega) hW (lv_sub hl [1, 2, 3, 0] rfl)
            exact L55 ((2 + 1 - 0 : Int).toNat + 1) 0 s34 H locs ls (by decide) hF36 q37 q38 q39 q40 hp35.1.1 hp35.1.2.1 hp35.1.2.2.1 (by omega) (by omega) (Nat.lt_succ_self _) hW (lv_sub hl [1, 2, 3, 0] rfl)
        exact L34 ((n + 1 - 0 : Int).toNat + 1) 0 s3 H locs ls (by decide) hF5 q6 q7 q8 hp4.1.1 hp4.1.2.1 hp4.1.2.2.1 q9 (by omega) (Nat.lt_succ_self _) hW (lv_sub hl [1, 2, 0] rfl)
      refine x_aload_n hx hb hl 0 rfl dX11_laysDark_8 rfl ?_
      refine x_get (j := 55) (v := .ref (h0 + 305)) hx hb hown hT hE hW cls_X11 (Or.inl (by decide)) (so_268 h0 g _) (by decide) rfl wq1240 dX11_laysDark_9 ?_
      refine x_iload_n hx hb hl 2 rfl dX11_laysDark_12 rfl ?_
      refine x_iconst hx hb dX11_laysDark_13 ?_
      refine x_iast hx hb hE hW (by decide) (fun σ => sa_305 h0 g σ) (by omega) (by decide) (by decide) dX11_laysDark_14 (fun H locs s79 es79 hW => ?_)
      have q80 : IMn s79 := by rw [es79]; exact IMn_o (by unfold suIMn; omega) q2_0
      have q81 : IMk s79 := by rw [es79]; exact IMk_o (by unfold suIMk; omega) q2_1
      have q82 : IMo s79 := by rw [es79]; exact IMo_o (by unfold suIMo; omega) q2_2
      have q83 : s79 268 8 = s0 268 8 := (show s79 268 8 = s_2 268 8 from by rw [es79, xU_k _ _ _ (by omega)]).trans q2_3
      have q84 : s79 268 58 = s0 268 58 := (show s79 268 58 = s_2 268 58 from by rw [es79, xU_k _ _ _ (by omega)]).trans q2_4
      have q85 : s79 269 37 = s0 269 37 := (show s79 269 37 = s_2 269 37 from by rw [es79, xU_k _ _ _ (by omega)]).trans q2_5
      have hF86 := hF_2.put es79 (by omega)
      refine x_iinc (lv' := [(2, .int (xJ (i2_2 + 1))), (0, .ref (h0 + 268)), (1, .int (xJ n))]) hx hb hl 2 rfl dX11_laysDark_15 (by decide) rfl (fun ls hl => ?_)
      refine lv_goto (tgt := 2) hx hb dX11_laysDark_18 (by decide) ?_
      exact ih2 (i2_2 + 1) s79 H locs ls (by omega) hF86 q80 q81 q82 q83 q84 q85 (by omega) (by omega) (by omega) hW (lv_sub hl [1, 2, 0] rfl)
  exact L2 ((100 + 1 - 0 : Int).toNat + 1) 0 s0 H locs ls (by decide) hF p0 p1 p2 k268_8 k268_58 k269_37 (by omega) (by omega) (Nat.lt_succ_self _) hW (lv_sub hl [1, 2, 0] rfl)
set_option maxHeartbeats 4000000 in
set_option maxRecDepth 100000 in
theorem c_X11_darkM (l : Launch) (D : va_G) (g : xG) (T : Nat × Nat × Nat) (h0 : Nat) (s0 : xS) (hσ : xRR s0) (n : Int) (rn : xR n) (x : Int) (rx : xR x) (p0 : IMn s0) (p1 : IMk s0) (p2 : IMo s0) : Met l yX11_dark (xws yX11_dark cX11_dark 6 (some .int)) { frames := 6, cells := 0, slots := 0, locals := 137 } (xP [.ref (h0 + 268), .int (xJ n), .int (xJ x)] D g T h0 s0) (xQi D g h0 (fun r τ => xFr (fun k => k = 269 ∨ k = 270 ∨ k = 293 ∨ k = 294 ∨ k = 295 ∨ k = 305) s0 τ ∧ (((IMn τ) ∧ (IMk τ) ∧ (IMo τ) ∧ (τ 269 37 = s0 269 37) ∧ True) ∧ (True)))) 0 0 (xA h0) := by
  refine x_met hσ (by decide) (Nat.le_of_ble_eq_true rfl) ?_
  intro p e s m args below meth c hx hb hr hml hown hT hlk hnm hE hW ls hl
  have hl : lv_has ls 6 [(0, .ref (h0 + 268)), (1, .int (xJ n)), (2, .int (xJ x))] := hl
  obtain ⟨Q, eQ⟩ : ∃ Q, Q = MQ below (xQi D g h0 (fun r τ => xFr (fun k => k = 269 ∨ k = 270 ∨ k = 293 ∨ k = 294 ∨ k = 295 ∨ k = 305) s0 τ ∧ (((IMn τ) ∧ (IMk τ) ∧ (IMo τ) ∧ (τ 269 37 = s0 269 37) ∧ True) ∧ (True)))) args s 0 0 (xA h0) := ⟨_, rfl⟩
  rw [← eQ]
  generalize hHe : ([] : List Loc) = locs at hW ⊢
  obtain ⟨H, eH⟩ : ∃ H, H = s.heap := ⟨_, rfl⟩
  rw [← eH] at hW ⊢
  have hF : xFr (fun k => k = 269 ∨ k = 270 ∨ k = 293 ∨ k = 294 ∨ k = 295 ∨ k = 305) s0 s0 := xFr.rf
  have k268_8 : s0 268 8 = s0 268 8 := rfl
  have k268_58 : s0 268 58 = s0 268 58 := rfl
  have k269_37 : s0 269 37 = s0 269 37 := rfl
  refine x_iload_n hx hb hl 1 rfl dX11_dark_0 rfl ?_
  refine x_iconst hx hb dX11_dark_1 ?_
  refine x_bipush hx hb dX11_dark_2 (by decide) ?_
  refine x_goi (x_runS (As := [.int (xJ n), .int (xJ 1), .int (xJ 60)]) hx hb hml hown hT hE hW hl.1 cf_X11_in wq1383 wq1382 (c_X11_in l D g T h0 s0 hW.2.1 n rn 1 (by decide) 60 (by decide)) ⟨rfl, rfl, ⟨by decide, by decide⟩, ⟨by decide, by decide⟩⟩ rfl rfl (Nat.le_of_ble_eq_true rfl) dX11_dark_4) hW (fun x1 s2 H locs rx1 hp3 hW => ?_)
  obtain ⟨es2, hp3⟩ := hp3
  subst es2
  have ghp3 := hp3
  refine x_if_eq (tgt := 19) hx hb rx1 dX11_dark_7 (by decide) (fun c4 => ?_) (fun c4 => ?_)
  · skip
    refine x_iconst hx hb dX11_dark_19 ?_
    rw [eQ]
    exact x_iret hx hb hr hlk hW (by decide) ⟨hF, ⟨p0, p1, p2, k269_37, trivial⟩, trivial⟩ dX11_dark_20
  refine x_iload_n hx hb hl 2 rfl dX11_dark_10 rfl ?_
  refine x_iconst hx hb dX11_dark_11 ?_
  refine x_iconst hx hb dX11_dark_12 ?_
  refine x_goi (x_runS (As := [.int (xJ x), .int (xJ 0), .int (xJ 2)]) hx hb hml hown hT hE hW hl.1 cf_X11_in wq1383 wq1382 (c_X11_in l D g T h0 s0 hW.2.1 x rx 0 (by decide) 2 (by decide)) ⟨rfl, rfl, ⟨by decide, by decide⟩, ⟨by decide, by decide⟩⟩ rfl rfl (Nat.le_of_ble_eq_true rfl) dX11_dark_13) hW (fun x5 s6 H locs rx5 hp7 hW => ?_)
  obtain ⟨es6, hp7⟩ := hp7
  subst es6
  have ghp7 := hp7
  refine x_if_ne (tgt := 21) hx hb rx5 dX11_dark_16 (by decide) (fun c8 => ?_) (fun c8 => ?_)
  · skip
    refine x_aload_n hx hb hl 0 rfl dX11_dark_21 rfl ?_
    refine x_iload_n hx hb hl 1 rfl dX11_dark_22 rfl ?_
    refine x_gov (x_runV (As := [.int (xJ n)]) hx hb hml hown hT hE hW hl.1 (Or.inl (by decide)) (so_268 h0 g _) rfl cf_X11_laysDark wq1724 wq160 wq1722 (c_X11_laysDarkM l D g T h0 s0 hW.2.1 n rn (by omega) p0 p1 p2) ⟨rfl, rfl, ⟨by decide, by decide⟩, ⟨by decide, by decide⟩⟩ rfl rfl (Nat.le_of_ble_eq_true rfl) dX11_dark_23) hW (fun s10 H locs hp11 hW => ?_)
    obtain ⟨fs10, hp11⟩ := hp11
    have hF12 := hF.call fs10 (fun k h => by omega)
    have q13 : s10 268 8 = s0 268 8 := (congrFun (fs10 _ (by omega)) _).trans k268_8
    have q14 : s10 268 58 = s0 268 58 := (congrFun (fs10 _ (by omega)) _).trans k268_58
    have ghp11 := hp11.2
    refine x_iconst hx hb dX11_dark_26 ?_
    refine lv_istore_n (lv' := [(3, .int (xJ 0)), (0, .ref (h0 + 268)), (1, .int (xJ n)), (2, .int (xJ x))]) hx hb dX11_dark_27 rfl hl (by decide) rfl (fun ls hl => ?_)
    refine x_bipush hx hb dX11_dark_28 (by decide) ?_
    refine lv_istore (lv' := [(4, .int (xJ (-2))), (3, .int (xJ 0)), (0, .ref (h0 + 268)), (1, .int (xJ n)), (2, .int (xJ x))]) hx hb dX11_dark_30 hl (by decide) rfl (fun ls hl => ?_)
    refine x_iconst hx hb dX11_dark_32 ?_
    refine lv_istore (lv' := [(5, .int (xJ 0)), (4, .int (xJ (-2))), (3, .int (xJ 0)), (0, .ref (h0 + 268)), (1, .int (xJ n)), (2, .int (xJ x))]) hx hb dX11_dark_33 hl (by decide) rfl (fun ls hl => ?_)
    have L35 : ∀ (fu : Nat) (i3_35 : Int) (i4_35 : Int) (i5_35 : Int) (ls : Array Slot), (xR i3_35) → (xR i4_35) → (xR i5_35) → (0 ≤ i5_35) → (i5_35 ≤ 100) → (0 ≤ i3_35 ∧ i3_35 ≤ i5_35) → (i4_35 = -2 ∨ (0 ≤ i4_35 ∧ i4_35 < 100)) → (100 + 1 - i5_35).toNat < fu → lv_has ls 6 [(0, .ref (h0 + 268)), (2, .int (xJ x)), (3, .int (xJ i3_35)), (4, .int (xJ i4_35)), (5, .int (xJ i5_35))] → W p l e { frames := 6, cells := 0, slots := 0, locals := 137 } s m args below meth c H locs 0 0 Q (F0 m 35 ls []) := by
      intro fu
      induction fu with
      | zero => intro i3_35 i4_35 i5_35 ls ri3_35 ri4_35 ri5_35 v35_0 v35_1 v35_2 v35_3 hm; exact absurd hm (Nat.not_lt_zero _)
      | succ fu ih35 =>
        intro i3_35 i4_35 i5_35 ls ri3_35 ri4_35 ri5_35 v35_0 v35_1 v35_2 v35_3 hm  hl
        refine x_iload hx hb hl 4 rfl dX11_dark_35 ?_
        refine x_bipush hx hb dX11_dark_37 (by decide) ?_
        refine x_icmp_ge (tgt := 108) hx hb ri5_35 (by decide) dX11_dark_39 (by decide) (fun c15 => ?_) (fun c15 => ?_)
        · skip
          refine x_iload_n hx hb hl 1 rfl dX11_dark_108 rfl ?_
          refine x_if_ne (tgt := 116) hx hb rx dX11_dark_109 (by decide) (fun c16 => ?_) (fun c16 => ?_)
          · skip
            refine x_iload_n hx hb hl 1 rfl dX11_dark_116 rfl ?_
            refine x_iconst hx hb dX11_dark_117 ?_
            refine x_icmp_ne (tgt := 126) hx hb rx (by decide) dX11_dark_118 (by decide) (fun c17 => ?_) (fun c17 => ?_)
            · skip
              refine x_iload hx hb hl 3 rfl dX11_dark_126 ?_
              refine x_bipush hx hb dX11_dark_128 (by decide) ?_
              refine x_icmp_ne (tgt := 137) hx hb ri4_35 (by decide) dX11_dark_130 (by decide) (fun c18 => ?_) (fun c18 => ?_)
              · skip
                refine x_aload_n hx hb hl 0 rfl dX11_dark_137 rfl ?_
                refine x_get (j := 55) (v := .ref (h0 + 305)) hx hb hown hT hE hW cls_X11 (Or.inl (by decide)) (so_268 h0 g _) (by decide) rfl wq1240 dX11_dark_138 ?_
                refine x_iload hx hb hl 3 rfl dX11_dark_141 ?_
                refine x_iald hx hb hE hW (Or.inl (by decide)) (sa_305 h0 g _) (by omega) (by decide) dX11_dark_143 ?_
                refine x_rd hW (fun x19 ex19 rx19 => ?_)
                rw [eQ]
                exact x_iret hx hb hr hlk hW rx19 ⟨hF12, ⟨hp11.1.1, hp11.1.2.1, hp11.1.2.2.1, (hp11.1.2.2.2.1.trans k269_37), trivial⟩, trivial⟩ dX11_dark_144
              refine x_iconst hx hb dX11_dark_133 ?_
              refine lv_goto (tgt := 144) hx hb dX11_dark_134 (by decide) ?_
              rw [eQ]
              exact x_iret hx hb hr hlk hW (by decide) ⟨hF12, ⟨hp11.1.1, hp11.1.2.1, hp11.1.2.2.1, (hp11.1.2.2.2.1.trans k269_37), trivial⟩, trivial⟩ dX11_dark_144
            refine x_iload hx hb hl 3 rfl dX11_dark_121 ?_
            refine lv_goto (tgt := 144) hx hb dX11_dark_123 (by decide) ?_
            rw [eQ]
            exact x_iret hx hb hr hlk hW ri4_35 ⟨hF12, ⟨hp11.1.1, hp11.1.2.1, hp11.1.2.2.1, (hp11.1.2.2.2.1.trans k269_37), trivial⟩, trivial⟩ dX11_dark_144
          refine x_iload_n hx hb hl 2 rfl dX11_dark_112 rfl ?_
          refine lv_goto (tgt := 144) hx hb dX11_dark_113 (by decide) ?_
          rw [eQ]
          exact x_iret hx hb hr hlk hW ri3_35 ⟨hF12, ⟨hp11.1.1, hp11.1.2.1, hp11.1.2.2.1, (hp11.1.2.2.2.1.trans k269_37), trivial⟩, trivial⟩ dX11_dark_144
        refine x_aload_n hx hb hl 0 rfl dX11_dark_42 rfl ?_
        refine x_get (j := 3) (v := .ref (h0 + 272)) hx hb hown hT hE hW cls_X11 (Or.inl (by decide)) (so_268 h0 g _) (by decide) rfl wq1188 dX11_dark_43 ?_
        refine x_iload hx hb hl 4 rfl dX11_dark_46 ?_
        refine x_iald hx hb hE hW (Or.inl (by decide)) (sa_272 h0 g _) (by omega) (by decide) dX11_dark_48 ?_
        refine x_rd hW (fun x20 ex20 rx20 => ?_)
        refine x_iconst hx hb dX11_dark_49 ?_
        refine x_icmp_ne (tgt := 56) hx hb rx20 (by decide) dX11_dark_50 (by decide) (fun c21 => ?_) (fun c21 => ?_)
        · skip
          refine x_iload_n hx hb hl 2 rfl dX11_dark_56 rfl ?_
          refine x_aload_n hx hb hl 0 rfl dX11_dark_57 rfl ?_
          refine x_get (j := 55) (v := .ref (h0 + 305)) hx hb hown hT hE hW cls_X11 (Or.inl (by decide)) (so_268 h0 g _) (by decide) rfl wq1240 dX11_dark_58 ?_
          refine x_iload hx hb hl 4 rfl dX11_dark_61 ?_
          refine x_iald hx hb hE hW (Or.inl (by decide)) (sa_305 h0 g _) (by omega) (by decide) dX11_dark_63 ?_
          refine x_rd hW (fun x22 ex22 rx22 => ?_)
          have J72 : ∀ (t0_72 : Int) (ls : Array Slot), (xR t0_72) → (0 ≤ t0_72 ∧ t0_72 ≤ 1) → lv_has ls 6 [(0, .ref (h0 + 268)), (2, .int (xJ x)), (4, .int (xJ i4_35)), (5, .int (xJ i5_35))] → W p l e { frames := 6, cells := 0, slots := 0, locals := 137 } s m args below meth c H locs 0 0 Q (F0 m 72 ls [.int (xJ t0_72), .int (xJ i3_35)]) := by
            intro t0_72 ls rt0_72 v72_0  hl
            refine x_iadd hx hb dX11_dark_72 ?_
            refine x_nm (fun x23 ex23 => ?_)
            refine lv_istore_n (lv' := [(3, .int (xJ x23)), (0, .ref (h0 + 268)), (2, .int (xJ x)), (4, .int (xJ i4_35)), (5, .int (xJ i5_35))]) hx hb dX11_dark_73 rfl hl (by decide) rfl (fun ls hl => ?_)
            refine x_iload hx hb hl 3 rfl dX11_dark_74 ?_
            refine x_bipush hx hb dX11_dark_76 (by decide) ?_
            refine x_icmp_eq (tgt := 98) hx hb ri4_35 (by decide) dX11_dark_78 (by decide) (fun c24 => ?_) (fun c24 => ?_)
            · skip
              refine x_iload hx hb hl 4 rfl dX11_dark_98 ?_
              refine lv_istore (lv' := [(4, .int (xJ i5_35)), (3, .int (xJ x23)), (0, .ref (h0 + 268)), (2, .int (xJ x)), (5, .int (xJ i5_35))]) hx hb dX11_dark_100 hl (by decide) rfl (fun ls hl => ?_)
              refine x_iinc (lv' := [(5, .int (xJ (i5_35 + 1))), (4, .int (xJ i5_35)), (3, .int (xJ x23)), (0, .ref (h0 + 268)), (2, .int (xJ x))]) hx hb hl 4 rfl dX11_dark_102 (by decide) rfl (fun ls hl => ?_)
              refine lv_goto (tgt := 35) hx hb dX11_dark_105 (by decide) ?_
              exact ih35 x23 i5_35 (i5_35 + 1) ls (by omega) ri5_35 (by omega) (by omega) (by omega) (by omega) (by omega) (by omega)  (lv_sub hl [3, 4, 2, 1, 0] rfl)
            refine x_aload_n hx hb hl 1 rfl dX11_dark_81 rfl ?_
            refine x_get (j := 55) (v := .ref (h0 + 305)) hx hb hown hT hE hW cls_X11 (Or.inl (by decide)) (so_268 h0 g _) (by decide) rfl wq1240 dX11_dark_82 ?_
            refine x_iload hx hb hl 4 rfl dX11_dark_85 ?_
            refine x_iald hx hb hE hW (Or.inl (by decide)) (sa_305 h0 g _) (by omega) (by decide) dX11_dark_87 ?_
            refine x_rd hW (fun x25 ex25 rx25 => ?_)
            refine x_aload_n hx hb hl 1 rfl dX11_dark_88 rfl ?_
            refine x_get (j := 55) (v := .ref (h0 + 305)) hx hb hown hT hE hW cls_X11 (Or.inl (by decide)) (so_268 h0 g _) (by decide) rfl wq1240 dX11_dark_89 ?_
            refine x_iload hx hb hl 3 rfl dX11_dark_92 ?_
            refine x_iald hx hb hE hW (Or.inl (by decide)) (sa_305 h0 g _) (by omega) (by decide) dX11_dark_94 ?_
            refine x_rd hW (fun x26 ex26 rx26 => ?_)
            refine x_icmp_le (tgt := 102) hx hb rx25 rx26 dX11_dark_95 (by decide) (fun c27 => ?_) (fun c27 => ?_)
            · skip
              refine x_iinc (lv' := [(5, .int (xJ (i5_35 + 1))), (3, .int (xJ x23)), (0, .ref (h0 + 268)), (2, .int (xJ x)), (4, .int (xJ i4_35))]) hx hb hl 4 rfl dX11_dark_102 (by decide) rfl (fun ls hl => ?_)
              refine lv_goto (tgt := 35) hx hb dX11_dark_105 (by decide) ?_
              exact ih35 x23 i4_35 (i5_35 + 1) ls (by omega) ri4_35 (by omega) (by omega) (by omega) (by omega) (by omega) (by omega)  (lv_sub hl [2, 3, 1, 4, 0] rfl)
            refine x_iload hx hb hl 4 rfl dX11_dark_98 ?_
            refine lv_istore (lv' := [(4, .int (xJ i5_35)), (3, .int (xJ x23)), (0, .ref (h0 + 268)), (2, .int (xJ x)), (5, .int (xJ i5_35))]) hx hb dX11_dark_100 hl (by decide) rfl (fun ls hl => ?_)
            refine x_iinc (lv' := [(5, .int (xJ (i5_35 + 1))), (4, .int (xJ i5_35)), (3, .int (xJ x23)), (0, .ref (h0 + 268)), (2, .int (xJ x))]) hx hb hl 4 rfl dX11_dark_102 (by decide) rfl (fun ls hl => ?_)
            refine lv_goto (tgt := 35) hx hb dX11_dark_105 (by decide) ?_
            exact ih35 x23 i5_35 (i5_35 + 1) ls (by omega) ri5_35 (by omega) (by omega) (by omega) (by omega) (by omega) (by omega)  (lv_sub hl [3, 4, 2, 1, 0] rfl)
          refine x_if_ne (tgt := 71) hx hb rx22 dX11_dark_64 (by decide) (fun c28 => ?_) (fun c28 => ?_)
          · skip
            refine x_iconst hx hb dX11_dark_71 ?_
            exact J72 0 ls (by decide) (by omega)  (lv_sub hl [0, 1, 3, 4] rfl)
          refine x_iconst hx hb dX11_dark_67 ?_
          refine lv_goto (tgt := 72) hx hb dX11_dark_68 (by decide) ?_
          exact J72 1 ls (by decide) (by omega)  (lv_sub hl [0, 1, 3, 4] rfl)
        refine lv_goto (tgt := 102) hx hb dX11_dark_53 (by decide) ?_
        refine x_iinc (lv' := [(5, .int (xJ (i5_35 + 1))), (0, .ref (h0 + 268)), (2, .int (xJ x)), (3, .int (xJ i3_35)), (4, .int (xJ i4_35))]) hx hb hl 4 rfl dX11_dark_102 (by decide) rfl (fun ls hl => ?_)
        refine lv_goto (tgt := 35) hx hb dX11_dark_105 (by decide) ?_
        exact ih35 i3_35 i4_35 (i5_35 + 1) ls ri3_35 ri4_35 (by omega) (by omega) (by omega) (by omega) (by omega) (by omega)  (lv_sub hl [1, 2, 3, 4, 0] rfl)
    exact L35 ((100 + 1 - 0 : Int).toNat + 1) 0 (-2) 0 ls (by decide) (by decide) (by decide) (by omega) (by omega) (by omega) (by omega) (Nat.lt_succ_self _)  (lv_sub hl [3, 5, 2, 1, 0] rfl)
  refine x_iconst hx hb dX11_dark_19 ?_
  rw [eQ]
  exact x_iret hx hb hr hlk hW (by decide) ⟨hF, ⟨p0, p1, p2, k269_37, trivial⟩, trivial⟩ dX11_dark_20
set_option maxHeartbeats 4000000 in
set_option maxRecDepth 100000 in
theorem c_X11_servedByM (l : Launch) (D : va_G) (g : xG) (T : Nat × Nat × Nat) (h0 : Nat) (s0 : xS) (hσ : xRR s0) (n : Int) (rn : xR n) (x : Int) (rx : xR x) (p0 : IMn s0) (p1 : IMk s0) (p2 : IMo s0) : Met l yX11_servedBy (xws yX11_servedBy cX11_servedBy 3 (some .int)) { frames := 9, cells := 0, slots := 0, locals := 209 } (xP [.ref (h0 + 268), .int (xJ n), .int (xJ x)] D g T h0 s0) (xQi D g h0 (fun r τ => xFr (fun k => k = 268 ∨ k = 269 ∨ k = 270 ∨ k = 293 ∨ k = 294 ∨ k = 295 ∨ k = 296 ∨ k = 297 ∨ k = 298 ∨ k = 299) s0 τ ∧ (((IMn τ) ∧ (IMk τ) ∧ (IMo τ) ∧ (τ 268 8 = s0 268 8) ∧ (τ 268 58 = s0 268 58) ∧ (τ 269 37 = s0 269 37) ∧ True) ∧ (True)))) 0 0 (xA h0) := by
  refine x_met hσ (by decide) (Nat.le_of_ble_eq_true rfl) ?_
  intro p e s m args below meth c hx hb hr hml hown hT hlk hnm hE hW ls hl
  have hl : lv_has ls 3 [(0, .ref (h0 + 268)), (1, .int (xJ n)), (2, .int (xJ x))] := hl
  obtain ⟨Q, eQ⟩ : ∃ Q, Q = MQ below (xQi D g h0 (fun r τ => xFr (fun k => k = 268 ∨ k = 269 ∨ k = 270 ∨ k = 293 ∨ k = 294 ∨ k = 295 ∨ k = 296 ∨ k = 297 ∨ k = 298 ∨ k = 299) s0 τ ∧ (((IMn τ) ∧ (IMk τ) ∧ (IMo τ) ∧ (τ 268 8 = s0 268 8) ∧ (τ 268 58 = s0 268 58) ∧ (τ 269 37 = s0 269 37) ∧ True) ∧ (True)))) args s 0 0 (xA h0) := ⟨_, rfl⟩
  rw [← eQ]
  generalize hHe : ([] : List Loc) = locs at hW ⊢
  obtain ⟨H, eH⟩ : ∃ H, H = s.heap := ⟨_, rfl⟩
  rw [← eH] at hW ⊢
  have hF : xFr (fun k => k = 268 ∨ k = 269 ∨ k = 270 ∨ k = 293 ∨ k = 294 ∨ k = 295 ∨ k = 296 ∨ k = 297 ∨ k = 298 ∨ k = 299) s0 s0 := xFr.rf
  have k268_8 : s0 268 8 = s0 268 8 := rfl
  have k268_58 : s0 268 58 = s0 268 58 := rfl
  have k269_37 : s0 269 37 = s0 269 37 := rfl
  refine x_iload_n hx hb hl 1 rfl dX11_servedBy_0 rfl ?_
  refine x_iconst hx hb dX11_servedBy_1 ?_
  refine x_bipush hx hb dX11_servedBy_2 (by decide) ?_
  refine x_goi (x_runS (As := [.int (xJ n), .int (xJ 1), .int (xJ 60)]) hx hb hml hown hT hE hW hl.1 cf_X11_in wq1383 wq1382 (c_X11_in l D g T h0 s0 hW.2.1 n rn 1 (by decide) 60 (by decide)) ⟨rfl, rfl, ⟨by decide, by decide⟩, ⟨by decide, by decide⟩⟩ rfl rfl (Nat.le_of_ble_eq_true rfl) dX11_servedBy_4) hW (fun x1 s2 H locs rx1 hp3 hW => ?_)
  obtain ⟨es2, hp3⟩ := hp3
  subst es2
  have ghp3 := hp3
  refine x_if_eq (tgt := 19) hx hb rx1 dX11_servedBy_7 (by decide) (fun c4 => ?_) (fun c4 => ?_)
  · skip
    refine x_iconst hx hb dX11_servedBy_19 ?_
    rw [eQ]
    exact x_iret hx hb hr hlk hW (by decide) ⟨hF, ⟨p0, p1, p2, k268_8, k268_58, k269_37, trivial⟩, trivial⟩ dX11_servedBy_20
  refine x_iload_n hx hb hl 2 rfl dX11_servedBy_10 rfl ?_
  refine x_iconst hx hb dX11_servedBy_11 ?_
  refine x_iconst hx hb dX11_servedBy_12 ?_
  refine x_goi (x_runS (As := [.int (xJ x), .int (xJ 0), .int (xJ 2)]) hx hb hml hown hT hE hW hl.1 cf_X11_in wq1383 wq1382 (c_X11_in l D g T h0 s0 hW.2.1 x rx 0 (by decide) 2 (by decide)) ⟨rfl, rfl, ⟨by decide, by decide⟩, ⟨by decide, by decide⟩⟩ rfl rfl (Nat.le_of_ble_eq_true rfl) dX11_servedBy_13) hW (fun x5 s6 H locs rx5 hp7 hW => ?_)
  obtain ⟨es6, hp7⟩ := hp7
  subst es6
  have ghp7 := hp7
  refine x_if_ne (tgt := 21) hx hb rx5 dX11_servedBy_16 (by decide) (fun c8 => ?_) (fun c8 => ?_)
  · skip
    refine x_iload_n hx hb hl 2 rfl dX11_servedBy_21 rfl ?_
    refine x_iconst hx hb dX11_servedBy_22 ?_
    have J50 : ∀ (H : Heap) (locs : List Loc) (ls : Array Slot), xW D g h0 s H locs s0 → lv_has ls 3 [(0, .ref (h0 + 268)), (1, .int (xJ n)), (2, .int (xJ x))] → W p l e { frames := 9, cells := 0, slots := 0, locals := 209 } s m args below meth c H locs 0 0 Q (F0 m 50 ls []) := by
      intro H locs ls  hW hl
      refine x_aload_n hx hb hl 0 rfl dX11_servedBy_50 rfl ?_
      refine x_get (j := 0) (v := .ref (h0 + 269)) hx hb hown hT hE hW cls_X11 (Or.inl (by decide)) (so_268 h0 g _) (by decide) rfl wq1185 dX11_servedBy_51 ?_
      refine x_aload_n hx hb hl 0 rfl dX11_servedBy_54 rfl ?_
      refine x_get (j := 1) (v := .ref (h0 + 270)) hx hb hown hT hE hW cls_X11 (Or.inl (by decide)) (so_268 h0 g _) (by decide) rfl wq1186 dX11_servedBy_55 ?_
      refine x_gov (x_runS (As := [.ref (h0 + 269), .ref (h0 + 270)]) hx hb hml hown hT hE hW hl.1 cf_X11_copies wq1647 wq1646 (c_X11_copiesMA l D g T h0 s0 hW.2.1 p0 p1 p2) ⟨rfl, rfl, ⟨by decide, by decide⟩, ⟨by decide, by decide⟩⟩ rfl rfl (Nat.le_of_ble_eq_true rfl) dX11_servedBy_58) hW (fun s10 H locs hp11 hW => ?_)
      obtain ⟨fs10, hp11⟩ := hp11
      have hF12 := hF.call fs10 (fun k h => by omega)
      have q13 : s10 268 8 = s0 268 8 := (congrFun (fs10 _ (by omega)) _).trans k268_8
      have q14 : s10 268 58 = s0 268 58 := (congrFun (fs10 _ (by omega)) _).trans k268_58
      have q15 : s10 269 37 = s0 269 37 := (congrFun (fs10 _ (by omega)) _).trans k269_37
      have ghp11 := hp11.2
      have q16 : s10 270 37 = s0 269 37 := (ghp11 37 (by decide) (by decide)).trans ((congrFun (fs10 269 (by omega)) 37).symm.trans q15)
      refine x_iload_n hx hb hl 2 rfl dX11_servedBy_61 rfl ?_
      refine x_iconst hx hb dX11_servedBy_62 ?_
      have J76 : ∀ (s_76 : xS) (H : Heap) (locs : List Loc) (ls : Array Slot), (xFr (fun k => k = 268 ∨ k = 269 ∨ k = 270 ∨ k = 293 ∨ k = 294 ∨ k = 295 ∨ k = 296 ∨ k = 297 ∨ k = 298 ∨ k = 299) s0 s_76) → (s_76 268 8 = s0 268 8) → (s_76 268 58 = s0 268 58) → (s_76 269 37 = s0 269 37) → (IMn s_76) → (IMk s_76) → (IMo s_76) → (s_76 270 37 = s0 269 37) → xW D g h0 s H locs s_76 → lv_has ls 3 [(0, .ref (h0 + 268)), (1, .int (xJ n))] → W p l e { frames := 9, cells := 0, slots := 0, locals := 209 } s m args below meth c H locs 0 0 Q (F0 m 76 ls []) := by
        intro s_76 H locs ls hF_76 q76_0 q76_1 q76_2 q76_3 q76_4 q76_5 q76_6 hW hl
        refine x_aload_n hx hb hl 0 rfl dX11_servedBy_76 rfl ?_
        refine x_iload_n hx hb hl 1 rfl dX11_servedBy_77 rfl ?_
        refine x_gov (x_runV (As := [.int (xJ n)]) hx hb hml hown hT hE hW hl.1 (Or.inl (by decide)) (so_268 h0 g _) rfl cf_X11_minutesGo wq1539 wq130 wq1537 (c_X11_minutesGoM l D g T h0 s_76 hW.2.1 n rn q76_3 q76_4 q76_5) ⟨rfl, rfl, ⟨by decide, by decide⟩, ⟨by decide, by decide⟩⟩ rfl rfl (Nat.le_of_ble_eq_true rfl) dX11_servedBy_78) hW (fun s18 H locs hp19 hW => ?_)
        obtain ⟨fs18, hp19⟩ := hp19
        have hF20 := hF_76.call fs18 (fun k h => by omega)
        have q21 : s18 270 37 = s0 269 37 := (congrFun (fs18 _ (by omega)) _).trans q76_6
        have ghp19 := hp19.2
        refine x_aload_n hx hb hl 0 rfl dX11_servedBy_81 rfl ?_
        refine x_get (j := 1) (v := .ref (h0 + 270)) hx hb hown hT hE hW cls_X11 (Or.inl (by decide)) (so_268 h0 g _) (by decide) rfl wq1186 dX11_servedBy_82 ?_
        refine x_aload_n hx hb hl 0 rfl dX11_servedBy_85 rfl ?_
        refine x_get (j := 0) (v := .ref (h0 + 269)) hx hb hown hT hE hW cls_X11 (Or.inl (by decide)) (so_268 h0 g _) (by decide) rfl wq1185 dX11_servedBy_86 ?_
        refine x_gov (x_runS (As := [.ref (h0 + 270), .ref (h0 + 269)]) hx hb hml hown hT hE hW hl.1 cf_X11_copies wq1647 wq1646 (c_X11_copiesMB l D g T h0 s18 hW.2.1 hp19.1.1 hp19.1.2.1 hp19.1.2.2.1) ⟨rfl, rfl, ⟨by decide, by decide⟩, ⟨by decide, by decide⟩⟩ rfl rfl (Nat.le_of_ble_eq_true rfl) dX11_servedBy_89) hW (fun s23 H locs hp24 hW => ?_)
        obtain ⟨fs23, hp24⟩ := hp24
        have hF25 := hF20.call fs23 (fun k h => by omega)
        have q26 : s23 270 37 = s0 269 37 := (congrFun (fs23 _ (by omega)) _).trans q21
        have q27 : s23 268 8 = s0 268 8 := (congrFun (fs23 _ (by omega)) _).trans (hp19.1.2.2.2.1.trans q76_0)
        have q28 : s23 268 58 = s0 268 58 := (congrFun (fs23 _ (by omega)) _).trans (hp19.1.2.2.2.2.1.trans q76_1)
        have ghp24 := hp24.2
        have q29 : s23 269 37 = s0 269 37 := (ghp24 37 (by decide) (by decide)).trans ((congrFun (fs23 270 (by omega)) 37).symm.trans q26)
        refine x_aload_n hx hb hl 0 rfl dX11_servedBy_92 rfl ?_
        refine x_get (j := 41) (v := .int (xJ (s23 268 41))) hx hb hown hT hE hW cls_X11 (Or.inl (by decide)) (so_268 h0 g _) (by decide) rfl wq1226 dX11_servedBy_93 ?_
        refine x_rd hW (fun x30 ex30 rx30 => ?_)
        rw [eQ]
        exact x_iret hx hb hr hlk hW rx30 ⟨hF25, ⟨hp24.1.1, hp24.1.2.1, hp24.1.2.2.1, q27, q28, q29, trivial⟩, trivial⟩ dX11_servedBy_96
      refine x_icmp_ge (tgt := 76) hx hb rx (by decide) dX11_servedBy_63 (by decide) (fun c31 => ?_) (fun c31 => ?_)
      · skip
        exact J76 s10 H locs ls hF12 q13 q14 q15 hp11.1.1 hp11.1.2.1 hp11.1.2.2.1 q16 hW (lv_sub hl [0, 1] rfl)
      refine x_aload_n hx hb hl 0 rfl dX11_servedBy_66 rfl ?_
      refine x_get (j := 0) (v := .ref (h0 + 269)) hx hb hown hT hE hW cls_X11 (Or.inl (by decide)) (so_268 h0 g _) (by decide) rfl wq1185 dX11_servedBy_67 ?_
      refine x_bipush hx hb dX11_servedBy_70 (by decide) ?_
      refine x_iconst hx hb dX11_servedBy_72 ?_
      refine x_iload_n hx hb hl 2 rfl dX11_servedBy_73 rfl ?_
      refine lv_ishl hx hb dX11_servedBy_74 ?_
      refine x_any (fun x32 rx32 => ?_)
      refine x_iast hx hb hE hW (by decide) (fun σ => sa_269 h0 g σ) ⟨by decide, by decide⟩ (by decide) rx32 dX11_servedBy_75 (fun H locs s33 es33 hW => ?_)
      have q34 : s33 268 8 = s0 268 8 := (show s33 268 8 = s10 268 8 from by rw [es33, xU_k _ _ _ (by omega)]).trans q13
      have q35 : s33 268 58 = s0 268 58 := (show s33 268 58 = s10 268 58 from by rw [es33, xU_k _ _ _ (by omega)]).trans q14
      have q36 : s33 269 37 = s0 269 37 := (show s33 269 37 = s10 269 37 from by rw [es33, xU_j _ _ (by decide)]).trans q15
      have q37 : IMn s33 := by rw [es33]; exact IMn_N269 hp11.1.1 (by omega)
      have q38 : IMk s33 := by rw [es33]; exact IMk_o (by unfold suIMk; omega) hp11.1.2.1
      have q39 : IMo s33 := by rw [es33]; exact IMo_o (by unfold suIMo; omega) hp11.1.2.2.1
      have q40 : s33 270 37 = s0 269 37 := (show s33 270 37 = s10 270 37 from by rw [es33, xU_k _ _ _ (by omega)]).trans q16
      have hF41 := hF12.put es33 (by omega)
      exact J76 s33 H locs ls hF41 q34 q35 q36 q37 q38 q39 q40 hW (lv_sub hl [0, 1] rfl)
    refine x_icmp_ne (tgt := 40) hx hb rx (by decide) dX11_servedBy_23 (by decide) (fun c42 => ?_) (fun c42 => ?_)
    · skip
      refine x_aload_n hx hb hl 0 rfl dX11_servedBy_40 rfl ?_
      refine x_iload_n hx hb hl 2 rfl dX11_servedBy_41 rfl ?_
      refine x_goi (x_runV (As := [.int (xJ x)]) hx hb hml hown hT hE hW hl.1 (Or.inl (by decide)) (so_268 h0 g _) rfl cf_X11_isJudge wq1409 wq109 wq1407 (c_X11_isJudge l D g T h0 s0 hW.2.1 x rx p0 p1 p2) ⟨rfl, rfl, ⟨by decide, by decide⟩, ⟨by decide, by decide⟩⟩ rfl rfl (Nat.le_of_ble_eq_true rfl) dX11_servedBy_42) hW (fun x43 s44 H locs rx43 hp45 hW => ?_)
      obtain ⟨es44, hp45⟩ := hp45
      subst es44
      have ghp45 := hp45
      refine x_if_ne (tgt := 50) hx hb rx43 dX11_servedBy_45 (by decide) (fun c46 => ?_) (fun c46 => ?_)
      · skip
        exact J50 H locs ls  hW (lv_sub hl [0, 1, 2] rfl)
      refine x_iconst hx hb dX11_servedBy_48 ?_
      rw [eQ]
      exact x_iret hx hb hr hlk hW (by decide) ⟨hF, ⟨p0, p1, p2, k268_8, k268_58, k269_37, trivial⟩, trivial⟩ dX11_servedBy_49
    refine x_aload_n hx hb hl 0 rfl dX11_servedBy_26 rfl ?_
    refine x_get (j := 0) (v := .ref (h0 + 269)) hx hb hown hT hE hW cls_X11 (Or.inl (by decide)) (so_268 h0 g _) (by decide) rfl wq1185 dX11_servedBy_27 ?_
    refine x_bipush hx hb dX11_servedBy_30 (by decide) ?_
    refine x_iald hx hb hE hW (Or.inl (by decide)) (sa_269 h0 g _) ⟨by decide, by decide⟩ (by decide) dX11_servedBy_32 ?_
    refine x_rd hW (fun x47 ex47 rx47 => ?_)
    refine x_iconst hx hb dX11_servedBy_33 ?_
    refine x_icmp_eq (tgt := 50) hx hb rx47 (by decide) dX11_servedBy_34 (by decide) (fun c48 => ?_) (fun c48 => ?_)
    · skip
      exact J50 H locs ls  hW (lv_sub hl [0, 1, 2] rfl)
    refine lv_goto (tgt := 48) hx hb dX11_servedBy_37 (by decide) ?_
    refine x_iconst hx hb dX11_servedBy_48 ?_
    rw [eQ]
    exact x_iret hx hb hr hlk hW (by decide) ⟨hF, ⟨p0, p1, p2, k268_8, k268_58, k269_37, trivial⟩, trivial⟩ dX11_servedBy_49
  refine x_iconst hx hb dX11_servedBy_19 ?_
  rw [eQ]
  exact x_iret hx hb hr hlk hW (by decide) ⟨hF, ⟨p0, p1, p2, k268_8, k268_58, k269_37, trivial⟩, trivial⟩ dX11_servedBy_20
set_option maxHeartbeats 4000000 in
set_option maxRecDepth 100000 in
theorem c_X11_seedM (l : Launch) (D : va_G) (g : xG) (T : Nat × Nat × Nat) (h0 : Nat) (s0 : xS) (hσ : xRR s0) (x : Int) (rx : xR x) (p0 : IMn s0) (p1 : IMk s0) (p2 : IMo s0) : Met l yX11_seed (xws yX11_seed cX11_seed 2 (some .boolean)) { frames := 1, cells := 0, slots := 0, locals := 22 } (xP [.ref (h0 + 268), .int (xJ x)] D g T h0 s0) (xQi D g h0 (fun r τ => xFr (fun k => k = 269) s0 τ ∧ (((IMn τ) ∧ (IMk τ) ∧ (IMo τ) ∧ (τ 269 37 = s0 269 37) ∧ True) ∧ ((r = 1 ∧ 0 ≤ x ∧ x ≤ 65535) ∨ (r = 0 ∧ (x < 0 ∨ 65535 < x)))))) 0 0 (xA h0) := by
  refine x_met hσ (by decide) (Nat.le_of_ble_eq_true rfl) ?_
  intro p e s m args below meth c hx hb hr hml hown hT hlk hnm hE hW ls hl
  have hl : lv_has ls 2 [(0, .ref (h0 + 268)), (1, .int (xJ x))] := hl
  obtain ⟨Q, eQ⟩ : ∃ Q, Q = MQ below (xQi D g h0 (fun r τ => xFr (fun k => k = 269) s0 τ ∧ (((IMn τ) ∧ (IMk τ) ∧ (IMo τ) ∧ (τ 269 37 = s0 269 37) ∧ True) ∧ ((r = 1 ∧ 0 ≤ x ∧ x ≤ 65535) ∨ (r = 0 ∧ (x < 0 ∨ 65535 < x)))))) args s 0 0 (xA h0) := ⟨_, rfl⟩
  rw [← eQ]
  generalize hHe : ([] : List Loc) = locs at hW ⊢
  obtain ⟨H, eH⟩ : ∃ H, H = s.heap := ⟨_, rfl⟩
  rw [← eH] at hW ⊢
  have hF : xFr (fun k => k = 269) s0 s0 := xFr.rf
  have k268_8 : s0 268 8 = s0 268 8 := rfl
  have k268_58 : s0 268 58 = s0 268 58 := rfl
  have k269_37 : s0 269 37 = s0 269 37 := rfl
  refine x_iload_n hx hb hl 1 rfl dX11_seed_0 rfl ?_
  refine x_iconst hx hb dX11_seed_1 ?_
  refine lv_ldcw (v := xJ 65535) hx hb hown (hT _ wq1758) dX11_seed_2 ?_
  refine x_goi (x_runS (As := [.int (xJ x), .int (xJ 0), .int (xJ 65535)]) hx hb hml hown hT hE hW hl.1 cf_X11_in wq1383 wq1382 (c_X11_in l D g T h0 s0 hW.2.1 x rx 0 (by decide) 65535 (by decide)) ⟨rfl, rfl, ⟨by decide, by decide⟩, ⟨by decide, by decide⟩⟩ rfl rfl (Nat.le_of_ble_eq_true rfl) dX11_seed_5) hW (fun x1 s2 H locs rx1 hp3 hW => ?_)
  obtain ⟨es2, hp3⟩ := hp3
  subst es2
  have ghp3 := hp3
  refine x_if_ne (tgt := 13) hx hb rx1 dX11_seed_8 (by decide) (fun c4 => ?_) (fun c4 => ?_)
  · skip
    refine x_aload_n hx hb hl 0 rfl dX11_seed_13 rfl ?_
    refine x_get (j := 0) (v := .ref (h0 + 269)) hx hb hown hT hE hW cls_X11 (Or.inl (by decide)) (so_268 h0 g _) (by decide) rfl wq1185 dX11_seed_14 ?_
    refine x_bipush hx hb dX11_seed_17 (by decide) ?_
    refine x_iload_n hx hb hl 1 rfl dX11_seed_19 rfl ?_
    refine x_iast hx hb hE hW (by decide) (fun σ => sa_269 h0 g σ) ⟨by decide, by decide⟩ (by decide) rx dX11_seed_20 (fun H locs s5 es5 hW => ?_)
    have q6 : IMn s5 := by rw [es5]; exact IMn_N269 p0 (by omega)
    have q7 : IMk s5 := by rw [es5]; exact IMk_o (by unfold suIMk; omega) p1
    have q8 : IMo s5 := by rw [es5]; exact IMo_o (by unfold suIMo; omega) p2
    have q9 : s5 268 8 = s0 268 8 := (show s5 268 8 = s0 268 8 from by rw [es5, xU_k _ _ _ (by omega)]).trans k268_8
    have q10 : s5 268 58 = s0 268 58 := (show s5 268 58 = s0 268 58 from by rw [es5, xU_k _ _ _ (by omega)]).trans k268_58
    have q11 : s5 269 37 = s0 269 37 := (show s5 269 37 = s0 269 37 from by rw [es5, xU_j _ _ (by decide)]).trans k269_37
    have hF12 := hF.put es5 (by omega)
    refine x_iconst hx hb dX11_seed_21 ?_
    rw [eQ]
    exact x_zret hx hb hr hlk hW (by omega) ⟨hF12, ⟨q6, q7, q8, q11, trivial⟩, by omega⟩ dX11_seed_22
  refine x_iconst hx hb dX11_seed_11 ?_
  rw [eQ]
  exact x_zret hx hb hr hlk hW (by omega) ⟨hF, ⟨p0, p1, p2, k269_37, trivial⟩, by omega⟩ dX11_seed_12
set_option maxHeartbeats 4000000 in
set_option maxRecDepth 100000 in
theorem c_X11_keepM (l : Launch) (D : va_G) (g : xG) (T : Nat × Nat × Nat) (h0 : Nat) (s0 : xS) (hσ : xRR s0) (p0 : IMn s0) (p1 : IMk s0) (p2 : IMo s0) : Met l yX11_keep (xws yX11_keep cX11_keep 1 (some .int)) { frames := 1, cells := 0, slots := 0, locals := 24 } (xP [.ref (h0 + 268)] D g T h0 s0) (xQi D g h0 (fun r τ => xFr (fun k => k = 268 ∨ k = 271 ∨ k = 308 ∨ k = 309) s0 τ ∧ (((IMn τ) ∧ (IMk τ) ∧ (IMo τ) ∧ (τ 268 8 = s0 268 8) ∧ True) ∧ (τ 268 58 = 1 ∧ τ 271 37 = s0 269 37 ∧ r = s0 269 37)))) 0 0 (xA h0) := by
  refine x_met hσ (by decide) (Nat.le_of_ble_eq_true rfl) ?_
  intro p e s m args below meth c hx hb hr hml hown hT hlk hnm hE hW ls hl
  have hl : lv_has ls 1 [(0, .ref (h0 + 268))] := hl
  obtain ⟨Q, eQ⟩ : ∃ Q, Q = MQ below (xQi D g h0 (fun r τ => xFr (fun k => k = 268 ∨ k = 271 ∨ k = 308 ∨ k = 309) s0 τ ∧ (((IMn τ) ∧ (IMk τ) ∧ (IMo τ) ∧ (τ 268 8 = s0 268 8) ∧ True) ∧ (τ 268 58 = 1 ∧ τ 271 37 = s0 269 37 ∧ r = s0 269 37)))) args s 0 0 (xA h0) := ⟨_, rfl⟩
  rw [← eQ]
  generalize hHe : ([] : List Loc) = locs at hW ⊢
  obtain ⟨H, eH⟩ : ∃ H, H = s.heap := ⟨_, rfl⟩
  rw [← eH] at hW ⊢
  have hF : xFr (fun k => k = 268 ∨ k = 271 ∨ k = 308 ∨ k = 309) s0 s0 := xFr.rf
  have k268_8 : s0 268 8 = s0 268 8 := rfl
  have k268_58 : s0 268 58 = s0 268 58 := rfl
  have k269_37 : s0 269 37 = s0 269 37 := rfl
  refine x_aload_n hx hb hl 0 rfl dX11_keep_0 rfl ?_
  refine x_iconst hx hb dX11_keep_1 ?_
  refine x_put (j := 58) hx hb hown hT hE hW cls_X11 (by decide) (fun σ => so_268 h0 g σ) (by decide) (st_X11_58 h0 s0 268 1) (ln_X11_58 h0 _ _) wq1243 rfl rfl rfl (by decide) dX11_keep_2 (fun H locs s1 es1 hW => ?_)
  have q2 : IMn s1 := by rw [es1]; exact IMn_268 p0 (by omega)
  have q3 : IMk s1 := by rw [es1]; exact IMk_268 p1 (by omega)
  have q4 : IMo s1 := by rw [es1]; exact IMo_o (by unfold suIMo; omega) p2
  have q5 : s1 268 8 = s0 268 8 := (show s1 268 8 = s0 268 8 from by rw [es1, xU_j _ _ (by decide)]).trans k268_8
  have q6 : s1 268 58 = 1 := by rw [es1, xU_s]
  have q7 : s1 269 37 = s0 269 37 := (show s1 269 37 = s0 269 37 from by rw [es1, xU_k _ _ _ (by omega)]).trans k269_37
  have hF8 := hF.put es1 (by omega)
  refine x_aload_n hx hb hl 0 rfl dX11_keep_5 rfl ?_
  refine x_get (j := 0) (v := .ref (h0 + 269)) hx hb hown hT hE hW cls_X11 (Or.inl (by decide)) (so_268 h0 g _) (by decide) rfl wq1185 dX11_keep_6 ?_
  refine x_aload_n hx hb hl 0 rfl dX11_keep_9 rfl ?_
  refine x_get (j := 2) (v := .ref (h0 + 271)) hx hb hown hT hE hW cls_X11 (Or.inl (by decide)) (so_268 h0 g _) (by decide) rfl wq1187 dX11_keep_10 ?_
  refine x_gov (x_runS (As := [.ref (h0 + 269), .ref (h0 + 271)]) hx hb hml hown hT hE hW hl.1 cf_X11_copies wq1647 wq1646 (c_X11_copiesMK l D g T h0 s1 hW.2.1 q2 q3 q4) ⟨rfl, rfl, ⟨by decide, by decide⟩, ⟨by decide, by decide⟩⟩ rfl rfl (Nat.le_of_ble_eq_true rfl) dX11_keep_13) hW (fun s10 H locs hp11 hW => ?_)
  obtain ⟨fs10, hp11⟩ := hp11
  have hF12 := hF8.call fs10 (fun k h => by omega)
  have q13 : s10 268 8 = s0 268 8 := (congrFun (fs10 _ (by omega)) _).trans q5
  have q14 : s10 268 58 = 1 := (congrFun (fs10 _ (by omega)) _).trans q6
  have q15 : s10 269 37 = s0 269 37 := (congrFun (fs10 _ (by omega)) _).trans q7
  have ghp11 := hp11.2
  have q16 : s10 271 37 = s0 269 37 := (ghp11 37 (by decide) (by decide)).trans ((congrFun (fs10 269 (by omega)) 37).symm.trans q15)
  refine x_aload_n hx hb hl 0 rfl dX11_keep_16 rfl ?_
  refine x_get (j := 5) (v := .ref (h0 + 274)) hx hb hown hT hE hW cls_X11 (Or.inl (by decide)) (so_268 h0 g _) (by decide) rfl wq1190 dX11_keep_17 ?_
  refine x_aload_n hx hb hl 0 rfl dX11_keep_20 rfl ?_
  refine x_get (j := 6) (v := .ref (h0 + 275)) hx hb hown hT hE hW cls_X11 (Or.inl (by decide)) (so_268 h0 g _) (by decide) rfl wq1191 dX11_keep_21 ?_
  refine x_aload_n hx hb hl 0 rfl dX11_keep_24 rfl ?_
  refine x_get (j := 59) (v := .ref (h0 + 308)) hx hb hown hT hE hW cls_X11 (Or.inl (by decide)) (so_268 h0 g _) (by decide) rfl wq1244 dX11_keep_25 ?_
  refine x_aload_n hx hb hl 0 rfl dX11_keep_28 rfl ?_
  refine x_get (j := 60) (v := .ref (h0 + 309)) hx hb hown hT hE hW cls_X11 (Or.inl (by decide)) (so_268 h0 g _) (by decide) rfl wq1245 dX11_keep_29 ?_
  refine x_gov (x_runS (As := [.ref (h0 + 274), .ref (h0 + 275), .ref (h0 + 308), .ref (h0 + 309)]) hx hb hml hown hT hE hW hl.1 cf_X11_copiesWalks wq1764 wq1763 (c_X11_copiesWalksK l D g T h0 s10 hW.2.1 hp11.1.1 hp11.1.2.1 hp11.1.2.2.1) ⟨rfl, rfl, ⟨by decide, by decide⟩, ⟨by decide, by decide⟩⟩ rfl rfl (Nat.le_of_ble_eq_true rfl) dX11_keep_32) hW (fun s18 H locs hp19 hW => ?_)
  obtain ⟨fs18, hp19⟩ := hp19
  have hF20 := hF12.call fs18 (fun k h => by omega)
  have q21 : s18 268 8 = s0 268 8 := (congrFun (fs18 _ (by omega)) _).trans q13
  have q22 : s18 268 58 = 1 := (congrFun (fs18 _ (by omega)) _).trans q14
  have q23 : s18 269 37 = s0 269 37 := (congrFun (fs18 _ (by omega)) _).trans q15
  have q24 : s18 271 37 = s0 269 37 := (congrFun (fs18 _ (by omega)) _).trans q16
  have ghp19 := hp19.2
  refine x_aload_n hx hb hl 0 rfl dX11_keep_35 rfl ?_
  refine x_get (j := 0) (v := .ref (h0 + 269)) hx hb hown hT hE hW cls_X11 (Or.inl (by decide)) (so_268 h0 g _) (by decide) rfl wq1185 dX11_keep_36 ?_
  refine x_bipush hx hb dX11_keep_39 (by decide) ?_
  refine x_iald hx hb hE hW (Or.inl (by decide)) (sa_269 h0 g _) ⟨by decide, by decide⟩ (by decide) dX11_keep_41 ?_
  refine x_rd hW (fun x25 ex25 rx25 => ?_)
  have bx25 : 0 ≤ x25 ∧ x25 ≤ 9999 := by rw [ex25]; exact (IMn.n1 hp19.1.1).2.2.2.1
  have fx25 : x25 = s0 269 37 := ex25.trans q23
  rw [eQ]
  exact x_iret hx hb hr hlk hW rx25 ⟨hF20, ⟨hp19.1.1, hp19.1.2.1, hp19.1.2.2.1, q21, trivial⟩, by omega⟩ dX11_keep_42
set_option maxHeartbeats 4000000 in
set_option maxRecDepth 100000 in
theorem c_X11_undoM (l : Launch) (D : va_G) (g : xG) (T : Nat × Nat × Nat) (h0 : Nat) (s0 : xS) (hσ : xRR s0) (p0 : IMn s0) (p1 : IMk s0) (p2 : IMo s0) : Met l yX11_undo (xws yX11_undo cX11_undo 1 (some .boolean)) { frames := 1, cells := 0, slots := 0, locals := 24 } (xP [.ref (h0 + 268)] D g T h0 s0) (xQi D g h0 (fun r τ => xFr (fun k => k = 269 ∨ k = 274 ∨ k = 275) s0 τ ∧ (((IMn τ) ∧ (IMk τ) ∧ (IMo τ) ∧ True) ∧ ((s0 268 58 = 0 ∧ r = 0 ∧ τ 269 37 = s0 269 37) ∨ (s0 268 58 ≠ 0 ∧ r = 1 ∧ τ 269 37 = s0 271 37))))) 0 0 (xA h0) := by
  refine x_met hσ (by decide) (Nat.le_of_ble_eq_true rfl) ?_
  intro p e s m args below meth c hx hb hr hml hown hT hlk hnm hE hW ls hl
  have hl : lv_has ls 1 [(0, .ref (h0 + 268))] := hl
  obtain ⟨Q, eQ⟩ : ∃ Q, Q = MQ below (xQi D g h0 (fun r τ => xFr (fun k => k = 269 ∨ k = 274 ∨ k = 275) s0 τ ∧ (((IMn τ) ∧ (IMk τ) ∧ (IMo τ) ∧ True) ∧ ((s0 268 58 = 0 ∧ r = 0 ∧ τ 269 37 = s0 269 37) ∨ (s0 268 58 ≠ 0 ∧ r = 1 ∧ τ 269 37 = s0 271 37))))) args s 0 0 (xA h0) := ⟨_, rfl⟩
  rw [← eQ]
  generalize hHe : ([] : List Loc) = locs at hW ⊢
  obtain ⟨H, eH⟩ : ∃ H, H = s.heap := ⟨_, rfl⟩
  rw [← eH] at hW ⊢
  have hF : xFr (fun k => k = 269 ∨ k = 274 ∨ k = 275) s0 s0 := xFr.rf
  have k268_8 : s0 268 8 = s0 268 8 := rfl
  have k268_58 : s0 268 58 = s0 268 58 := rfl
  have k268_58 : s0 268 58 = s0 268 58 := rfl
  have k271_37 : s0 271 37 = s0 271 37 := rfl
  have k269_37 : s0 269 37 = s0 269 37 := rfl
  refine x_aload_n hx hb hl 0 rfl dX11_undo_0 rfl ?_
  refine x_get (j := 58) (v := .int (xJ (s0 268 58))) hx hb hown hT hE hW cls_X11 (Or.inl (by decide)) (so_268 h0 g _) (by decide) rfl wq1243 dX11_undo_1 ?_
  refine x_rd hW (fun x1 ex1 rx1 => ?_)
  have fx1 : x1 = s0 268 58 := ex1.trans k268_58
  refine x_if_ne (tgt := 9) hx hb rx1 dX11_undo_4 (by decide) (fun c2 => ?_) (fun c2 => ?_)
  · skip
    refine x_aload_n hx hb hl 0 rfl dX11_undo_9 rfl ?_
    refine x_get (j := 2) (v := .ref (h0 + 271)) hx hb hown hT hE hW cls_X11 (Or.inl (by decide)) (so_268 h0 g _) (by decide) rfl wq1187 dX11_undo_10 ?_
    refine x_aload_n hx hb hl 0 rfl dX11_undo_13 rfl ?_
    refine x_get (j := 0) (v := .ref (h0 + 269)) hx hb hown hT hE hW cls_X11 (Or.inl (by decide)) (so_268 h0 g _) (by decide) rfl wq1185 dX11_undo_14 ?_
    refine x_gov (x_runS (As := [.ref (h0 + 271), .ref (h0 + 269)]) hx hb hml hown hT hE hW hl.1 cf_X11_copies wq1647 wq1646 (c_X11_copiesMU l D g T h0 s0 hW.2.1 p0 p1 p2) ⟨rfl, rfl, ⟨by decide, by decide⟩, ⟨by decide, by decide⟩⟩ rfl rfl (Nat.le_of_ble_eq_true rfl) dX11_undo_17) hW (fun s4 H locs hp5 hW => ?_)
    obtain ⟨fs4, hp5⟩ := hp5
    have hF6 := hF.call fs4 (fun k h => by omega)
    have q7 : s4 268 8 = s0 268 8 := (congrFun (fs4 _ (by omega)) _).trans k268_8
    have q8 : s4 268 58 = s0 268 58 := (congrFun (fs4 _ (by omega)) _).trans k268_58
    have q9 : s4 271 37 = s0 271 37 := (congrFun (fs4 _ (by omega)) _).trans k271_37
    have ghp5 := hp5.2
    have q10 : s4 269 37 = s0 271 37 := (ghp5 37 (by decide) (by decide)).trans ((congrFun (fs4 271 (by omega)) 37).symm.trans q9)
    refine x_aload_n hx hb hl 0 rfl dX11_undo_20 rfl ?_
    refine x_get (j := 59) (v := .ref (h0 + 308)) hx hb hown hT hE hW cls_X11 (Or.inl (by decide)) (so_268 h0 g _) (by decide) rfl wq1244 dX11_undo_21 ?_
    refine x_aload_n hx hb hl 0 rfl dX11_undo_24 rfl ?_
    refine x_get (j := 60) (v := .ref (h0 + 309)) hx hb hown hT hE hW cls_X11 (Or.inl (by decide)) (so_268 h0 g _) (by decide) rfl wq1245 dX11_undo_25 ?_
    refine x_aload_n hx hb hl 0 rfl dX11_undo_28 rfl ?_
    refine x_get (j := 5) (v := .ref (h0 + 274)) hx hb hown hT hE hW cls_X11 (Or.inl (by decide)) (so_268 h0 g _) (by decide) rfl wq1190 dX11_undo_29 ?_
    refine x_aload_n hx hb hl 0 rfl dX11_undo_32 rfl ?_
    refine x_get (j := 6) (v := .ref (h0 + 275)) hx hb hown hT hE hW cls_X11 (Or.inl (by decide)) (so_268 h0 g _) (by decide) rfl wq1191 dX11_undo_33 ?_
    refine x_gov (x_runS (As := [.ref (h0 + 308), .ref (h0 + 309), .ref (h0 + 274), .ref (h0 + 275)]) hx hb hml hown hT hE hW hl.1 cf_X11_copiesWalks wq1764 wq1763 (c_X11_copiesWalksU l D g T h0 s4 hW.2.1 hp5.1.1 hp5.1.2.1 hp5.1.2.2.1) ⟨rfl, rfl, ⟨by decide, by decide⟩, ⟨by decide, by decide⟩⟩ rfl rfl (Nat.le_of_ble_eq_true rfl) dX11_undo_36) hW (fun s12 H locs hp13 hW => ?_)
    obtain ⟨fs12, hp13⟩ := hp13
    have hF14 := hF6.call fs12 (fun k h => by omega)
    have q15 : s12 268 8 = s0 268 8 := (congrFun (fs12 _ (by omega)) _).trans q7
    have q16 : s12 268 58 = s0 268 58 := (congrFun (fs12 _ (by omega)) _).trans q8
    have q17 : s12 271 37 = s0 271 37 := (congrFun (fs12 _ (by omega)) _).trans q9
    have q18 : s12 269 37 = s0 271 37 := (congrFun (fs12 _ (by omega)) _).trans q10
    have ghp13 := hp13.2
    refine x_iconst hx hb dX11_undo_39 ?_
    rw [eQ]
    exact x_zret hx hb hr hlk hW (by omega) ⟨hF14, ⟨hp13.1.1, hp13.1.2.1, hp13.1.2.2.1, trivial⟩, by omega⟩ dX11_undo_40
  refine x_iconst hx hb dX11_undo_7 ?_
  rw [eQ]
  exact x_zret hx hb hr hlk hW (by omega) ⟨hF, ⟨p0, p1, p2, trivial⟩, by omega⟩ dX11_undo_8
set_option maxHeartbeats 4000000 in
set_option maxRecDepth 100000 in
theorem c_X11_judgeM (l : Launch) (D : va_G) (g : xG) (T : Nat × Nat × Nat) (h0 : Nat) (s0 : xS) (hσ : xRR s0) (j : Int) (rj : xR j) (x : Int) (rx : xR x) (y : Int) (ry : xR y) (p0 : IMn s0) (p1 : IMk s0) (p2 : IMo s0) : Met l yX11_judge (xws yX11_judge cX11_judge 4 (some .boolean)) { frames := 2, cells := 0, slots := 0, locals := 43 } (xP [.ref (h0 + 268), .int (xJ j), .int (xJ x), .int (xJ y)] D g T h0 s0) (xQi D g h0 (fun r τ => xFr (fun k => k = 269) s0 τ ∧ (((IMn τ) ∧ (IMk τ) ∧ (IMo τ) ∧ (τ 269 37 = s0 269 37) ∧ True) ∧ (r = 0 ∨ r = 1)))) 0 0 (xA h0) := by
  refine x_met hσ (by decide) (Nat.le_of_ble_eq_true rfl) ?_
  intro p e s m args below meth c hx hb hr hml hown hT hlk hnm hE hW ls hl
  have hl : lv_has ls 4 [(0, .ref (h0 + 268)), (1, .int (xJ j)), (2, .int (xJ x)), (3, .int (xJ y))] := hl
  obtain ⟨Q, eQ⟩ : ∃ Q, Q = MQ below (xQi D g h0 (fun r τ => xFr (fun k => k = 269) s0 τ ∧ (((IMn τ) ∧ (IMk τ) ∧ (IMo τ) ∧ (τ 269 37 = s0 269 37) ∧ True) ∧ (r = 0 ∨ r = 1)))) args s 0 0 (xA h0) := ⟨_, rfl⟩
  rw [← eQ]
  generalize hHe : ([] : List Loc) = locs at hW ⊢
  obtain ⟨H, eH⟩ : ∃ H, H = s.heap := ⟨_, rfl⟩
  rw [← eH] at hW ⊢
  have hF : xFr (fun k => k = 269) s0 s0 := xFr.rf
  have k268_8 : s0 268 8 = s0 268 8 := rfl
  have k268_58 : s0 268 58 = s0 268 58 := rfl
  have k269_37 : s0 269 37 = s0 269 37 := rfl
  refine x_iload_n hx hb hl 1 rfl dX11_judge_0 rfl ?_
  refine x_iconst hx hb dX11_judge_1 ?_
  refine x_goi (x_runS (As := [.int (xJ j), .int (xJ 2)]) hx hb hml hown hT hE hW hl.1 cf_X11_isFive wq1412 wq1411 (c_X11_isFive l D g T h0 s0 hW.2.1 j rj 2 (by decide)) ⟨rfl, rfl, ⟨by decide, by decide⟩, ⟨by decide, by decide⟩⟩ rfl rfl (Nat.le_of_ble_eq_true rfl) dX11_judge_2) hW (fun x1 s2 H locs rx1 hp3 hW => ?_)
  obtain ⟨es2, hp3⟩ := hp3
  subst es2
  have ghp3 := hp3
  refine x_if_eq (tgt := 29) hx hb rx1 dX11_judge_5 (by decide) (fun c4 => ?_) (fun c4 => ?_)
  · skip
    refine x_iconst hx hb dX11_judge_29 ?_
    rw [eQ]
    exact x_zret hx hb hr hlk hW (by omega) ⟨hF, ⟨p0, p1, p2, k269_37, trivial⟩, by omega⟩ dX11_judge_30
  refine x_iload_n hx hb hl 2 rfl dX11_judge_8 rfl ?_
  refine x_iload_n hx hb hl 3 rfl dX11_judge_9 rfl ?_
  refine x_goi (x_runS (As := [.int (xJ x), .int (xJ y)]) hx hb hml hown hT hE hW hl.1 cf_X11_isOn wq1430 wq1429 (c_X11_isOn l D g T h0 s0 hW.2.1 x rx y ry) ⟨rfl, rfl, ⟨by decide, by decide⟩, ⟨by decide, by decide⟩⟩ rfl rfl (Nat.le_of_ble_eq_true rfl) dX11_judge_10) hW (fun x5 s6 H locs rx5 hp7 hW => ?_)
  obtain ⟨es6, hp7⟩ := hp7
  subst es6
  have ghp7 := hp7
  refine x_if_eq (tgt := 29) hx hb rx5 dX11_judge_13 (by decide) (fun c8 => ?_) (fun c8 => ?_)
  · skip
    refine x_iconst hx hb dX11_judge_29 ?_
    rw [eQ]
    exact x_zret hx hb hr hlk hW (by omega) ⟨hF, ⟨p0, p1, p2, k269_37, trivial⟩, by omega⟩ dX11_judge_30
  refine x_aload_n hx hb hl 0 rfl dX11_judge_16 rfl ?_
  refine x_bipush hx hb dX11_judge_17 (by decide) ?_
  refine x_iload_n hx hb hl 3 rfl dX11_judge_19 rfl ?_
  refine x_imul hx hb dX11_judge_20 ?_
  refine x_iload_n hx hb hl 2 rfl dX11_judge_21 rfl ?_
  refine x_iadd hx hb dX11_judge_22 ?_
  refine x_goi (x_runV (As := [.int (xJ ((10 * y) + x))]) hx hb hml hown hT hE hW hl.1 (Or.inl (by decide)) (so_268 h0 g _) rfl cf_X11_isGround wq1419 wq110 wq1417 (c_X11_isGroundM l D g T h0 s0 hW.2.1 ((10 * y) + x) (by omega) (by omega) p0 p1 p2) ⟨rfl, rfl, ⟨by decide, by decide⟩, ⟨by decide, by decide⟩⟩ rfl rfl (Nat.le_of_ble_eq_true rfl) dX11_judge_23) hW (fun x9 s10 H locs rx9 hp11 hW => ?_)
  obtain ⟨es10, hp11⟩ := hp11
  subst es10
  have ghp11 := hp11
  refine x_if_ne (tgt := 31) hx hb rx9 dX11_judge_26 (by decide) (fun c12 => ?_) (fun c12 => ?_)
  · skip
    refine x_aload_n hx hb hl 0 rfl dX11_judge_31 rfl ?_
    refine x_iconst hx hb dX11_judge_32 ?_
    refine x_iload_n hx hb hl 1 rfl dX11_judge_33 rfl ?_
    refine x_isub hx hb dX11_judge_34 ?_
    refine x_goi (x_runV (As := [.int (xJ (1 - j))]) hx hb hml hown hT hE hW hl.1 (Or.inl (by decide)) (so_268 h0 g _) rfl cf_X11_isJudge wq1409 wq109 wq1407 (c_X11_isJudge l D g T h0 s0 hW.2.1 (1 - j) (by omega) p0 p1 p2) ⟨rfl, rfl, ⟨by decide, by decide⟩, ⟨by decide, by decide⟩⟩ rfl rfl (Nat.le_of_ble_eq_true rfl) dX11_judge_35) hW (fun x13 s14 H locs rx13 hp15 hW => ?_)
    obtain ⟨es14, hp15⟩ := hp15
    subst es14
    have ghp15 := hp15
    have J60 : ∀ (ls : Array Slot), lv_has ls 4 [(0, .ref (h0 + 268)), (1, .int (xJ j)), (2, .int (xJ x)), (3, .int (xJ y))] → W p l e { frames := 2, cells := 0, slots := 0, locals := 43 } s m args below meth c H locs 0 0 Q (F0 m 60 ls []) := by
      intro ls   hl
      refine x_aload_n hx hb hl 0 rfl dX11_judge_60 rfl ?_
      refine x_get (j := 0) (v := .ref (h0 + 269)) hx hb hown hT hE hW cls_X11 (Or.inl (by decide)) (so_268 h0 g _) (by decide) rfl wq1185 dX11_judge_61 ?_
      refine x_bipush hx hb dX11_judge_64 (by decide) ?_
      refine x_aload_n hx hb hl 0 rfl dX11_judge_66 rfl ?_
      refine x_get (j := 0) (v := .ref (h0 + 269)) hx hb hown hT hE hW cls_X11 (Or.inl (by decide)) (so_268 h0 g _) (by decide) rfl wq1185 dX11_judge_67 ?_
      refine x_bipush hx hb dX11_judge_70 (by decide) ?_
      refine x_iald hx hb hE hW (Or.inl (by decide)) (sa_269 h0 g _) ⟨by decide, by decide⟩ (by decide) dX11_judge_72 ?_
      refine x_rd hW (fun x16 ex16 rx16 => ?_)
      refine x_iconst hx hb dX11_judge_73 ?_
      refine x_iload_n hx hb hl 1 rfl dX11_judge_74 rfl ?_
      refine lv_ishl hx hb dX11_judge_75 ?_
      refine x_any (fun x17 rx17 => ?_)
      refine lv_ior hx hb dX11_judge_76 ?_
      refine x_any (fun x18 rx18 => ?_)
      refine x_iast hx hb hE hW (by decide) (fun σ => sa_269 h0 g σ) ⟨by decide, by decide⟩ (by decide) rx18 dX11_judge_77 (fun H locs s19 es19 hW => ?_)
      have q20 : IMn s19 := by rw [es19]; exact IMn_N269 p0 (by omega)
      have q21 : IMk s19 := by rw [es19]; exact IMk_o (by unfold suIMk; omega) p1
      have q22 : IMo s19 := by rw [es19]; exact IMo_o (by unfold suIMo; omega) p2
      have q23 : s19 268 8 = s0 268 8 := (show s19 268 8 = s0 268 8 from by rw [es19, xU_k _ _ _ (by omega)]).trans k268_8
      have q24 : s19 268 58 = s0 268 58 := (show s19 268 58 = s0 268 58 from by rw [es19, xU_k _ _ _ (by omega)]).trans k268_58
      have q25 : s19 269 37 = s0 269 37 := (show s19 269 37 = s0 269 37 from by rw [es19, xU_j _ _ (by decide)]).trans k269_37
      have hF26 := hF.put es19 (by omega)
      refine x_aload_n hx hb hl 0 rfl dX11_judge_78 rfl ?_
      refine x_get (j := 0) (v := .ref (h0 + 269)) hx hb hown hT hE hW cls_X11 (Or.inl (by decide)) (so_268 h0 g _) (by decide) rfl wq1185 dX11_judge_79 ?_
      refine x_iconst hx hb dX11_judge_82 ?_
      refine x_iload_n hx hb hl 1 rfl dX11_judge_83 rfl ?_
      refine x_iadd hx hb dX11_judge_84 ?_
      refine x_bipush hx hb dX11_judge_85 (by decide) ?_
      refine x_iload_n hx hb hl 3 rfl dX11_judge_87 rfl ?_
      refine x_imul hx hb dX11_judge_88 ?_
      refine x_iload_n hx hb hl 2 rfl dX11_judge_89 rfl ?_
      refine x_iadd hx hb dX11_judge_90 ?_
      refine x_iast hx hb hE hW (by decide) (fun σ => sa_269 h0 g σ) (by omega) (by decide) (by omega) dX11_judge_91 (fun H locs s27 es27 hW => ?_)
      have q28 : IMn s27 := by rw [es27]; exact IMn_N269 q20 (by omega)
      have q29 : IMk s27 := by rw [es27]; exact IMk_o (by unfold suIMk; omega) q21
      have q30 : IMo s27 := by rw [es27]; exact IMo_o (by unfold suIMo; omega) q22
      have q31 : s27 268 8 = s0 268 8 := (show s27 268 8 = s19 268 8 from by rw [es27, xU_k _ _ _ (by omega)]).trans q23
      have q32 : s27 268 58 = s0 268 58 := (show s27 268 58 = s19 268 58 from by rw [es27, xU_k _ _ _ (by omega)]).trans q24
      have q33 : s27 269 37 = s0 269 37 := (show s27 269 37 = s19 269 37 from by rw [es27, xU_j _ _ (by omega)]).trans q25
      have hF34 := hF26.put es27 (by omega)
      refine x_iconst hx hb dX11_judge_92 ?_
      rw [eQ]
      exact x_zret hx hb hr hlk hW (by omega) ⟨hF34, ⟨q28, q29, q30, q33, trivial⟩, by omega⟩ dX11_judge_93
    refine x_if_eq (tgt := 60) hx hb rx13 dX11_judge_38 (by decide) (fun c35 => ?_) (fun c35 => ?_)
    · skip
      exact J60 ls   (lv_sub hl [0, 1, 2, 3] rfl)
    refine x_aload_n hx hb hl 0 rfl dX11_judge_41 rfl ?_
    refine x_get (j := 0) (v := .ref (h0 + 269)) hx hb hown hT hE hW cls_X11 (Or.inl (by decide)) (so_268 h0 g _) (by decide) rfl wq1185 dX11_judge_42 ?_
    refine x_iconst hx hb dX11_judge_45 ?_
    refine x_iload_n hx hb hl 1 rfl dX11_judge_46 rfl ?_
    refine x_isub hx hb dX11_judge_47 ?_
    refine x_iald hx hb hE hW (Or.inl (by decide)) (sa_269 h0 g _) (by omega) (by decide) dX11_judge_48 ?_
    refine x_rd hW (fun x36 ex36 rx36 => ?_)
    have bx36 : 0 ≤ x36 ∧ x36 ≤ 99 := by rw [ex36]; exact (IMn.n1 p0).1 _ (by omega) (by omega)
    refine x_bipush hx hb dX11_judge_49 (by decide) ?_
    refine x_iload_n hx hb hl 3 rfl dX11_judge_51 rfl ?_
    refine x_imul hx hb dX11_judge_52 ?_
    refine x_iload_n hx hb hl 2 rfl dX11_judge_53 rfl ?_
    refine x_iadd hx hb dX11_judge_54 ?_
    refine x_icmp_ne (tgt := 60) hx hb rx36 (by omega) dX11_judge_55 (by decide) (fun c37 => ?_) (fun c37 => ?_)
    · skip
      exact J60 ls   (lv_sub hl [0, 1, 2, 3] rfl)
    refine x_iconst hx hb dX11_judge_58 ?_
    rw [eQ]
    exact x_zret hx hb hr hlk hW (by omega) ⟨hF, ⟨p0, p1, p2, k269_37, trivial⟩, by omega⟩ dX11_judge_59
  refine x_iconst hx hb dX11_judge_29 ?_
  rw [eQ]
  exact x_zret hx hb hr hlk hW (by omega) ⟨hF, ⟨p0, p1, p2, k269_37, trivial⟩, by omega⟩ dX11_judge_30
set_option maxHeartbeats 4000000 in
set_option maxRecDepth 100000 in
theorem c_X11_walkM (l : Launch) (D : va_G) (g : xG) (T : Nat × Nat × Nat) (h0 : Nat) (s0 : xS) (hσ : xRR s0) (j : Int) (rj : xR j) (n : Int) (rn : xR n) (p0 : IMn s0) (p1 : IMk s0) (p2 : IMo s0) : Met l yX11_walk (xws yX11_walk cX11_walk 5 (some .int)) { frames := 3, cells := 0, slots := 0, locals := 70 } (xP [.ref (h0 + 268), .int (xJ j), .int (xJ n)] D g T h0 s0) (xQi D g h0 (fun r τ => xFr (fun k => k = 268 ∨ k = 269 ∨ k = 274 ∨ k = 275 ∨ k = 289 ∨ k = 290 ∨ k = 291 ∨ k = 292) s0 τ ∧ (((IMn τ) ∧ (IMk τ) ∧ (IMo τ) ∧ (τ 268 58 = s0 268 58) ∧ (τ 269 37 = s0 269 37) ∧ True) ∧ (((j < 0 ∨ 1 < j ∨ n < 1 ∨ 80 < n ∨ s0 268 8 < n) ∧ τ 268 8 = s0 268 8 ∧ r = -1) ∨ (¬ (j < 0 ∨ 1 < j ∨ n < 1 ∨ 80 < n ∨ s0 268 8 < n) ∧ τ 268 8 = 0))))) 0 0 (xA h0) := by
  refine x_met hσ (by decide) (Nat.le_of_ble_eq_true rfl) ?_
  intro p e s m args below meth c hx hb hr hml hown hT hlk hnm hE hW ls hl
  have hl : lv_has ls 5 [(0, .ref (h0 + 268)), (1, .int (xJ j)), (2, .int (xJ n))] := hl
  obtain ⟨Q, eQ⟩ : ∃ Q, Q = MQ below (xQi D g h0 (fun r τ => xFr (fun k => k = 268 ∨ k = 269 ∨ k = 274 ∨ k = 275 ∨ k = 289 ∨ k = 290 ∨ k = 291 ∨ k = 292) s0 τ ∧ (((IMn τ) ∧ (IMk τ) ∧ (IMo τ) ∧ (τ 268 58 = s0 268 58) ∧ (τ 269 37 = s0 269 37) ∧ True) ∧ (((j < 0 ∨ 1 < j ∨ n < 1 ∨ 80 < n ∨ s0 268 8 < n) ∧ τ 268 8 = s0 268 8 ∧ r = -1) ∨ (¬ (j < 0 ∨ 1 < j ∨ n < 1 ∨ 80 < n ∨ s0 268 8 < n) ∧ τ 268 8 = 0))))) args s 0 0 (xA h0) := ⟨_, rfl⟩
  rw [← eQ]
  generalize hHe : ([] : List Loc) = locs at hW ⊢
  obtain ⟨H, eH⟩ : ∃ H, H = s.heap := ⟨_, rfl⟩
  rw [← eH] at hW ⊢
  have hF : xFr (fun k => k = 268 ∨ k = 269 ∨ k = 274 ∨ k = 275 ∨ k = 289 ∨ k = 290 ∨ k = 291 ∨ k = 292) s0 s0 := xFr.rf
  have k268_58 : s0 268 58 = s0 268 58 := rfl
  have k269_37 : s0 269 37 = s0 269 37 := rfl
  have k268_8 : s0 268 8 = s0 268 8 := rfl
  refine x_iload_n hx hb hl 1 rfl dX11_walk_0 rfl ?_
  refine x_iconst hx hb dX11_walk_1 ?_
  refine x_goi (x_runS (As := [.int (xJ j), .int (xJ 2)]) hx hb hml hown hT hE hW hl.1 cf_X11_isFive wq1412 wq1411 (c_X11_isFive l D g T h0 s0 hW.2.1 j rj 2 (by decide)) ⟨rfl, rfl, ⟨by decide, by decide⟩, ⟨by decide, by decide⟩⟩ rfl rfl (Nat.le_of_ble_eq_true rfl) dX11_walk_2) hW (fun x1 s2 H locs rx1 hp3 hW => ?_)
  obtain ⟨es2, hp3⟩ := hp3
  subst es2
  have ghp3 := hp3
  refine x_if_eq (tgt := 26) hx hb rx1 dX11_walk_5 (by decide) (fun c4 => ?_) (fun c4 => ?_)
  · skip
    refine x_iconst hx hb dX11_walk_26 ?_
    rw [eQ]
    exact x_iret hx hb hr hlk hW (by decide) ⟨hF, ⟨p0, p1, p2, k268_58, k269_37, trivial⟩, by omega⟩ dX11_walk_27
  refine x_iload_n hx hb hl 2 rfl dX11_walk_8 rfl ?_
  refine x_iconst hx hb dX11_walk_9 ?_
  refine x_bipush hx hb dX11_walk_10 (by decide) ?_
  refine x_goi (x_runS (As := [.int (xJ n), .int (xJ 1), .int (xJ 80)]) hx hb hml hown hT hE hW hl.1 cf_X11_in wq1383 wq1382 (c_X11_in l D g T h0 s0 hW.2.1 n rn 1 (by decide) 80 (by decide)) ⟨rfl, rfl, ⟨by decide, by decide⟩, ⟨by decide, by decide⟩⟩ rfl rfl (Nat.le_of_ble_eq_true rfl) dX11_walk_12) hW (fun x5 s6 H locs rx5 hp7 hW => ?_)
  obtain ⟨es6, hp7⟩ := hp7
  subst es6
  have ghp7 := hp7
  refine x_if_eq (tgt := 26) hx hb rx5 dX11_walk_15 (by decide) (fun c8 => ?_) (fun c8 => ?_)
  · skip
    refine x_iconst hx hb dX11_walk_26 ?_
    rw [eQ]
    exact x_iret hx hb hr hlk hW (by decide) ⟨hF, ⟨p0, p1, p2, k268_58, k269_37, trivial⟩, by omega⟩ dX11_walk_27
  refine x_iload_n hx hb hl 2 rfl dX11_walk_18 rfl ?_
  refine x_aload_n hx hb hl 0 rfl dX11_walk_19 rfl ?_
  refine x_get (j := 8) (v := .int (xJ (s0 268 8))) hx hb hown hT hE hW cls_X11 (Or.inl (by decide)) (so_268 h0 g _) (by decide) rfl wq1193 dX11_walk_20 ?_
  refine x_rd hW (fun x9 ex9 rx9 => ?_)
  have bx9 : 0 ≤ x9 ∧ x9 ≤ 260 := by rw [ex9]; exact IMn.t p0
  have fx9 : x9 = s0 268 8 := ex9.trans k268_8
  refine x_icmp_le (tgt := 28) hx hb rn rx9 dX11_walk_23 (by decide) (fun c10 => ?_) (fun c10 => ?_)
  · skip
    refine x_aload_n hx hb hl 0 rfl dX11_walk_28 rfl ?_
    refine x_iconst hx hb dX11_walk_29 ?_
    refine x_put (j := 9) hx hb hown hT hE hW cls_X11 (by decide) (fun σ => so_268 h0 g σ) (by decide) (st_X11_9 h0 s0 268 0) (ln_X11_9 h0 _ _) wq1194 rfl rfl rfl (by decide) dX11_walk_30 (fun H locs s11 es11 hW => ?_)
    have q12 : IMn s11 := by rw [es11]; exact IMn_268 p0 (by omega)
    have q13 : IMk s11 := by rw [es11]; exact IMk_268 p1 (by omega)
    have q14 : IMo s11 := by rw [es11]; exact IMo_o (by unfold suIMo; omega) p2
    have q15 : s11 268 58 = s0 268 58 := (show s11 268 58 = s0 268 58 from by rw [es11, xU_j _ _ (by decide)]).trans k268_58
    have q16 : s11 269 37 = s0 269 37 := (show s11 269 37 = s0 269 37 from by rw [es11, xU_k _ _ _ (by omega)]).trans k269_37
    have q17 : s11 268 8 = s0 268 8 := (show s11 268 8 = s0 268 8 from by rw [es11, xU_j _ _ (by decide)]).trans k268_8
    have q18 : s11 268 9 = 0 := by rw [es11, xU_s]
    have hF19 := hF.put es11 (by omega)
    refine x_aload_n hx hb hl 0 rfl dX11_walk_33 rfl ?_
    refine x_iload_n hx hb hl 2 rfl dX11_walk_34 rfl ?_
    refine x_put (j := 10) hx hb hown hT hE hW cls_X11 (by decide) (fun σ => so_268 h0 g σ) (by decide) (st_X11_10 h0 s11 268 n) (ln_X11_10 h0 _ _) wq1195 rfl rfl rfl rn dX11_walk_35 (fun H locs s20 es20 hW => ?_)
    have q21 : IMn s20 := by rw [es20]; exact IMn_268 q12 (by omega)
    have q22 : IMk s20 := by rw [es20]; exact IMk_268 q13 (by omega)
    have q23 : IMo s20 := by rw [es20]; exact IMo_o (by unfold suIMo; omega) q14
    have q24 : s20 268 58 = s0 268 58 := (show s20 268 58 = s11 268 58 from by rw [es20, xU_j _ _ (by decide)]).trans q15
    have q25 : s20 269 37 = s0 269 37 := (show s20 269 37 = s11 269 37 from by rw [es20, xU_k _ _ _ (by omega)]).trans q16
    have q26 : s20 268 8 = s0 268 8 := (show s20 268 8 = s11 268 8 from by rw [es20, xU_j _ _ (by decide)]).trans q17
    have q27 : s20 268 9 = 0 := (show s20 268 9 = s11 268 9 from by rw [es20, xU_j _ _ (by decide)]).trans q18
    have q28 : s20 268 10 = n := by rw [es20, xU_s]
    have hF29 := hF19.put es20 (by omega)
    have q30 : IR s20 := by unfold IR; omega
    refine x_aload_n hx hb hl 0 rfl dX11_walk_38 rfl ?_
    refine x_iconst hx hb dX11_walk_39 ?_
    refine x_put (j := 34) hx hb hown hT hE hW cls_X11 (by decide) (fun σ => so_268 h0 g σ) (by decide) (st_X11_34 h0 s20 268 0) (ln_X11_34 h0 _ _) wq1219 rfl rfl rfl (by decide) dX11_walk_40 (fun H locs s31 es31 hW => ?_)
    have q32 : IMn s31 := by rw [es31]; exact IMn_268 q21 (by omega)
    have q33 : IMk s31 := by rw [es31]; exact IMk_268 q22 (by omega)
    have q34 : IMo s31 := by rw [es31]; exact IMo_o (by unfold suIMo; omega) q23
    have q35 : s31 268 58 = s0 268 58 := (show s31 268 58 = s20 268 58 from by rw [es31, xU_j _ _ (by decide)]).trans q24
    have q36 : s31 269 37 = s0 269 37 := (show s31 269 37 = s20 269 37 from by rw [es31, xU_k _ _ _ (by omega)]).trans q25
    have q37 : s31 268 8 = s0 268 8 := (show s31 268 8 = s20 268 8 from by rw [es31, xU_j _ _ (by decide)]).trans q26
    have q38 : s31 268 9 = 0 := (show s31 268 9 = s20 268 9 from by rw [es31, xU_j _ _ (by decide)]).trans q27
    have q39 : s31 268 10 = n := (show s31 268 10 = s20 268 10 from by rw [es31, xU_j _ _ (by decide)]).trans q28
    have q40 : IR s31 := by rw [es31]; exact IR_268 q30 (by omega)
    have q41 : s31 268 34 = 0 := by rw [es31, xU_s]
    have hF42 := hF29.put es31 (by omega)
    refine x_aload_n hx hb hl 0 rfl dX11_walk_43 rfl ?_
    refine x_iconst hx hb dX11_walk_44 ?_
    refine x_put (j := 35) hx hb hown hT hE hW cls_X11 (by decide) (fun σ => so_268 h0 g σ) (by decide) (st_X11_35 h0 s31 268 0) (ln_X11_35 h0 _ _) wq1220 rfl rfl rfl (by decide) dX11_walk_45 (fun H locs s43 es43 hW => ?_)
    have q44 : IMn s43 := by rw [es43]; exact IMn_268 q32 (by omega)
    have q45 : IMk s43 := by rw [es43]; exact IMk_268 q33 (by omega)
    have q46 : IMo s43 := by rw [es43]; exact IMo_o (by unfold suIMo; omega) q34
    have q47 : s43 268 58 = s0 268 58 := (show s43 268 58 = s31 268 58 from by rw [es43, xU_j _ _ (by decide)]).trans q35
    have q48 : s43 269 37 = s0 269 37 := (show s43 269 37 = s31 269 37 from by rw [es43, xU_k _ _ _ (by omega)]).trans q36
    have q49 : s43 268 8 = s0 268 8 := (show s43 268 8 = s31 268 8 from by rw [es43, xU_j _ _ (by decide)]).trans q37
    have q50 : s43 268 9 = 0 := (show s43 268 9 = s31 268 9 from by rw [es43, xU_j _ _ (by decide)]).trans q38
    have q51 : s43 268 10 = n := (show s43 268 10 = s31 268 10 from by rw [es43, xU_j _ _ (by decide)]).trans q39
    have q52 : IR s43 := by rw [es43]; exact IR_268 q40 (by omega)
    have q53 : s43 268 34 = 0 := (show s43 268 34 = s31 268 34 from by rw [es43, xU_j _ _ (by decide)]).trans q41
    have q54 : s43 268 35 = 0 := by rw [es43, xU_s]
    have hF55 := hF42.put es43 (by omega)
    refine x_aload_n hx hb hl 0 rfl dX11_walk_48 rfl ?_
    refine x_goi (x_runV (As := []) hx hb hml hown hT hE hW hl.1 (Or.inl (by decide)) (so_268 h0 g _) rfl cf_X11_readsStep wq1446 wq112 wq1444 (c_X11_readsStep l D g T h0 s43 hW.2.1 (zRW.new (by omega) (by omega)) q44 q45 q46 q52) ⟨rfl, rfl, ⟨by decide, by decide⟩, ⟨by decide, by decide⟩⟩ rfl rfl (Nat.le_of_ble_eq_true rfl) dX11_walk_49) hW (fun x56 s57 H locs rx56 hp58 hW => ?_)
    obtain ⟨fs57, hp58⟩ := hp58
    have hF59 := hF55.call fs57 (fun k h => by omega)
    have q60 : s57 269 37 = s0 269 37 := (congrFun (fs57 _ (by omega)) _).trans q48
    have ghp58 := hp58.2
    have G49 := ghp58
    refine lv_istore_n (lv' := [(3, .int (xJ x56)), (0, .ref (h0 + 268)), (1, .int (xJ j)), (2, .int (xJ n))]) hx hb dX11_walk_52 rfl hl (by decide) rfl (fun ls hl => ?_)
    have L53 : ∀ (fu : Nat) (i3_53 : Int) (s_53 : xS) (H : Heap) (locs : List Loc) (ls : Array Slot), (xR i3_53) → (xFr (fun k => k = 268 ∨ k = 269 ∨ k = 274 ∨ k = 275 ∨ k = 289 ∨ k = 290 ∨ k = 291 ∨ k = 292) s0 s_53) → (s_53 269 37 = s0 269 37) → (IMn s_53) → (IMk s_53) → (IMo s_53) → (IR s_53) → (s_53 268 8 = s0 268 8) → (s_53 268 58 = s0 268 58) → (s_53 268 10 = n) → (s_53 268 14 = s43 268 14) → (s_53 268 15 = s43 268 15) → (s_53 268 16 = s43 268 16) → (i3_53 = 0 ∨ (i3_53 = 1 ∧ zRW s_53)) → (2 * (241 - s_53 268 9) + i3_53).toNat < fu → xW D g h0 s H locs s_53 → lv_has ls 5 [(0, .ref (h0 + 268)), (1, .int (xJ j)), (3, .int (xJ i3_53))] → W p l e { frames := 3, cells := 0, slots := 0, locals := 70 } s m args below meth c H locs 0 0 Q (F0 m 53 ls []) := by
      intro fu
      induction fu with
      | zero => intro i3_53 s_53 H locs ls ri3_53 hF_53 q53_0 q53_1 q53_2 q53_3 q53_4 q53_5 q53_6 q53_7 q53_8 q53_9 q53_10 v53_0 hm; exact absurd hm (Nat.not_lt_zero _)
      | succ fu ih53 =>
        intro i3_53 s_53 H locs ls ri3_53 hF_53 q53_0 q53_1 q53_2 q53_3 q53_4 q53_5 q53_6 q53_7 q53_8 q53_9 q53_10 v53_0 hm hW hl
        refine x_iload_n hx hb hl 2 rfl dX11_walk_53 rfl ?_
        have J83 : ∀ (ls : Array Slot), (i3_53 = 0 ∨ (i3_53 = 1 ∧ zRW s_53)) → lv_has ls 5 [(0, .ref (h0 + 268)), (1, .int (xJ j)), (3, .int (xJ i3_53))] → W p l e { frames := 3, cells := 0, slots := 0, locals := 70 } s m args below meth c H locs 0 0 Q (F0 m 83 ls []) := by
          intro ls v83_0  hl
          refine x_aload_n hx hb hl 0 rfl dX11_walk_83 rfl ?_
          refine x_iconst hx hb dX11_walk_84 ?_
          refine x_put (j := 8) hx hb hown hT hE hW cls_X11 (by decide) (fun σ => so_268 h0 g σ) (by decide) (st_X11_8 h0 s_53 268 0) (ln_X11_8 h0 _ _) wq1193 rfl rfl rfl (by decide) dX11_walk_85 (fun H locs s61 es61 hW => ?_)
          have q62 : s61 269 37 = s0 269 37 := (show s61 269 37 = s_53 269 37 from by rw [es61, xU_k _ _ _ (by omega)]).trans q53_0
          have q63 : IMn s61 := by rw [es61]; exact IMn_268 q53_1 (by omega)
          have q64 : IMk s61 := by rw [es61]; exact IMk_268 q53_2 (by omega)
          have q65 : IMo s61 := by rw [es61]; exact IMo_o (by unfold suIMo; omega) q53_3
          have q66 : IR s61 := by rw [es61]; exact IR_268 q53_4 (by omega)
          have q67 : s61 268 8 = 0 := by rw [es61, xU_s]
          have q68 : s61 268 58 = s0 268 58 := (show s61 268 58 = s_53 268 58 from by rw [es61, xU_j _ _ (by decide)]).trans q53_6
          have q69 : s61 268 10 = n := (show s61 268 10 = s_53 268 10 from by rw [es61, xU_j _ _ (by decide)]).trans q53_7
          have q70 : s61 268 14 = s43 268 14 := (show s61 268 14 = s_53 268 14 from by rw [es61, xU_j _ _ (by decide)]).trans q53_8
          have q71 : s61 268 15 = s43 268 15 := (show s61 268 15 = s_53 268 15 from by rw [es61, xU_j _ _ (by decide)]).trans q53_9
          have q72 : s61 268 16 = s43 268 16 := (show s61 268 16 = s_53 268 16 from by rw [es61, xU_j _ _ (by decide)]).trans q53_10
          have hF73 := hF_53.put es61 (by omega)
          have Y85 : s61 268 34 = s_53 268 34 := by rw [es61, xU_j _ _ (by decide)]
          have Z85 : i3_53 = 0 ∨ (0 ≤ s_53 268 34 ∧ s_53 268 34 ≤ 60) := v83_0.elim Or.inl (fun q => Or.inr q.2.1)
          refine x_iload_n hx hb hl 2 rfl dX11_walk_88 rfl ?_
          refine x_if_ne (tgt := 97) hx hb ri3_53 dX11_walk_89 (by decide) (fun c74 => ?_) (fun c74 => ?_)
          · skip
            refine x_aload_n hx hb hl 0 rfl dX11_walk_97 rfl ?_
            refine x_get (j := 5) (v := .ref (h0 + 274)) hx hb hown hT hE hW cls_X11 (Or.inl (by decide)) (so_268 h0 g _) (by decide) rfl wq1190 dX11_walk_98 ?_
            refine x_iload_n hx hb hl 1 rfl dX11_walk_101 rfl ?_
            refine x_aload_n hx hb hl 0 rfl dX11_walk_102 rfl ?_
            refine x_get (j := 34) (v := .int (xJ (s61 268 34))) hx hb hown hT hE hW cls_X11 (Or.inl (by decide)) (so_268 h0 g _) (by decide) rfl wq1219 dX11_walk_103 ?_
            refine x_rd hW (fun x75 ex75 rx75 => ?_)
            refine x_iast hx hb hE hW (by decide) (fun σ => sa_274 h0 g σ) (by omega) (by decide) rx75 dX11_walk_106 (fun H locs s76 es76 hW => ?_)
            have q77 : s76 269 37 = s0 269 37 := (show s76 269 37 = s61 269 37 from by rw [es76, xU_k _ _ _ (by omega)]).trans q62
            have q78 : IMn s76 := by rw [es76]; exact IMn_274 q63 (by omega)
            have q79 : IMk s76 := by rw [es76]; exact IMk_o (by unfold suIMk; omega) q64
            have q80 : IMo s76 := by rw [es76]; exact IMo_o (by unfold suIMo; omega) q65
            have q81 : IR s76 := by rw [es76]; exact IR_o (by unfold suIR; omega) q66
            have q82 : s76 268 8 = 0 := (show s76 268 8 = s61 268 8 from by rw [es76, xU_k _ _ _ (by omega)]).trans q67
            have q83 : s76 268 58 = s0 268 58 := (show s76 268 58 = s61 268 58 from by rw [es76, xU_k _ _ _ (by omega)]).trans q68
            have q84 : s76 268 10 = n := (show s76 268 10 = s61 268 10 from by rw [es76, xU_k _ _ _ (by omega)]).trans q69
            have q85 : s76 268 14 = s43 268 14 := (show s76 268 14 = s61 268 14 from by rw [es76, xU_k _ _ _ (by omega)]).trans q70
            have q86 : s76 268 15 = s43 268 15 := (show s76 268 15 = s61 268 15 from by rw [es76, xU_k _ _ _ (by omega)]).trans q71
            have q87 : s76 268 16 = s43 268 16 := (show s76 268 16 = s61 268 16 from by rw [es76, xU_k _ _ _ (by omega)]).trans q72
            have hF88 := hF73.put es76 (by omega)
            have Y106 : s76 268 34 = s_53 268 34 := by rw [es76, xU_k _ _ _ (by omega)]; exact Y85
            refine x_aload_n hx hb hl 0 rfl dX11_walk_107 rfl ?_
            refine x_get (j := 0) (v := .ref (h0 + 269)) hx hb hown hT hE hW cls_X11 (Or.inl (by decide)) (so_268 h0 g _) (by decide) rfl wq1185 dX11_walk_108 ?_
            refine x_iconst hx hb dX11_walk_111 ?_
            refine x_iload_n hx hb hl 1 rfl dX11_walk_112 rfl ?_
            refine x_iadd hx hb dX11_walk_113 ?_
            refine x_iconst hx hb dX11_walk_114 ?_
            refine x_iast hx hb hE hW (by decide) (fun σ => sa_269 h0 g σ) (by omega) (by decide) (by decide) dX11_walk_115 (fun H locs s89 es89 hW => ?_)
            have q90 : s89 269 37 = s0 269 37 := (show s89 269 37 = s76 269 37 from by rw [es89, xU_j _ _ (by omega)]).trans q77
            have q91 : IMn s89 := by rw [es89]; exact IMn_N269 q78 (by omega)
            have q92 : IMk s89 := by rw [es89]; exact IMk_o (by unfold suIMk; omega) q79
            have q93 : IMo s89 := by rw [es89]; exact IMo_o (by unfold suIMo; omega) q80
            have q94 : IR s89 := by rw [es89]; exact IR_o (by unfold suIR; omega) q81
            have q95 : s89 268 8 = 0 := (show s89 268 8 = s76 268 8 from by rw [es89, xU_k _ _ _ (by omega)]).trans q82
            have q96 : s89 268 58 = s0 268 58 := (show s89 268 58 = s76 268 58 from by rw [es89, xU_k _ _ _ (by omega)]).trans q83
            have q97 : s89 268 10 = n := (show s89 268 10 = s76 268 10 from by rw [es89, xU_k _ _ _ (by omega)]).trans q84
            have q98 : s89 268 14 = s43 268 14 := (show s89 268 14 = s76 268 14 from by rw [es89, xU_k _ _ _ (by omega)]).trans q85
            have q99 : s89 268 15 = s43 268 15 := (show s89 268 15 = s76 268 15 from by rw [es89, xU_k _ _ _ (by omega)]).trans q86
            have q100 : s89 268 16 = s43 268 16 := (show s89 268 16 = s76 268 16 from by rw [es89, xU_k _ _ _ (by omega)]).trans q87
            have hF101 := hF88.put es89 (by omega)
            have Y115 : s89 268 34 = s_53 268 34 := by rw [es89, xU_k _ _ _ (by omega)]; exact Y106
            refine x_iconst hx hb dX11_walk_116 ?_
            refine lv_istore (lv' := [(4, .int (xJ 0)), (0, .ref (h0 + 268)), (1, .int (xJ j)), (3, .int (xJ i3_53))]) hx hb dX11_walk_117 hl (by decide) rfl (fun ls hl => ?_)
            have L119 : ∀ (fu : Nat) (i4_119 : Int) (s_119 : xS) (H : Heap) (locs : List Loc) (ls : Array Slot), (xR i4_119) → (xFr (fun k => k = 268 ∨ k = 269 ∨ k = 274 ∨ k = 275 ∨ k = 289 ∨ k = 290 ∨ k = 291 ∨ k = 292) s0 s_119) → (s_119 269 37 = s0 269 37) → (IMn s_119) → (IMk s_119) → (IMo s_119) → (IR s_119) → (s_119 268 8 = 0) → (s_119 268 58 = s0 268 58) → (s_119 268 10 = n) → (s_119 268 14 = s43 268 14) → (s_119 268 15 = s43 268 15) → (s_119 268 16 = s43 268 16) → (0 ≤ i4_119) → (s_119 268 34 = s_53 268 34) → (60 - i4_119).toNat < fu → xW D g h0 s H locs s_119 → lv_has ls 5 [(0, .ref (h0 + 268)), (1, .int (xJ j)), (4, .int (xJ i4_119))] → W p l e { frames := 3, cells := 0, slots := 0, locals := 70 } s m args below meth c H locs 0 0 Q (F0 m 119 ls []) := by
              intro fu
              induction fu with
              | zero => intro i4_119 s_119 H locs ls ri4_119 hF_119 q119_0 q119_1 q119_2 q119_3 q119_4 q119_5 q119_6 q119_7 q119_8 q119_9 q119_10 v119_0 v119_1 hm; exact absurd hm (Nat.not_lt_zero _)
              | succ fu ih119 =>
                intro i4_119 s_119 H locs ls ri4_119 hF_119 q119_0 q119_1 q119_2 q119_3 q119_4 q119_5 q119_6 q119_7 q119_8 q119_9 q119_10 v119_0 v119_1 hm hW hl
                refine x_iload hx hb hl 2 rfl dX11_walk_119 ?_
                refine x_aload_n hx hb hl 0 rfl dX11_walk_121 rfl ?_
                refine x_get (j := 34) (v := .int (xJ (s_119 268 34))) hx hb hown hT hE hW cls_X11 (Or.inl (by decide)) (so_268 h0 g _) (by decide) rfl wq1219 dX11_walk_122 ?_
                refine x_rd hW (fun x102 ex102 rx102 => ?_)
                refine x_icmp_ge (tgt := 153) hx hb ri4_119 rx102 dX11_walk_125 (by decide) (fun c103 => ?_) (fun c103 => ?_)
                · skip
                  refine x_aload_n hx hb hl 0 rfl dX11_walk_153 rfl ?_
                  refine x_get (j := 34) (v := .int (xJ (s_119 268 34))) hx hb hown hT hE hW cls_X11 (Or.inl (by decide)) (so_268 h0 g _) (by decide) rfl wq1219 dX11_walk_154 ?_
                  refine x_rd hW (fun x104 ex104 rx104 => ?_)
                  rw [eQ]
                  exact x_iret hx hb hr hlk hW rx104 ⟨hF_119, ⟨q119_1, q119_2, q119_3, q119_6, q119_0, trivial⟩, by omega⟩ dX11_walk_157
                refine x_aload_n hx hb hl 0 rfl dX11_walk_128 rfl ?_
                refine x_get (j := 6) (v := .ref (h0 + 275)) hx hb hown hT hE hW cls_X11 (Or.inl (by decide)) (so_268 h0 g _) (by decide) rfl wq1191 dX11_walk_129 ?_
                refine x_bipush hx hb dX11_walk_132 (by decide) ?_
                refine x_iload_n hx hb hl 1 rfl dX11_walk_134 rfl ?_
                refine x_imul hx hb dX11_walk_135 ?_
                refine x_iload hx hb hl 2 rfl dX11_walk_136 ?_
                refine x_iadd hx hb dX11_walk_138 ?_
                refine x_aload_n hx hb hl 0 rfl dX11_walk_139 rfl ?_
                refine x_get (j := 30) (v := .ref (h0 + 289)) hx hb hown hT hE hW cls_X11 (Or.inl (by decide)) (so_268 h0 g _) (by decide) rfl wq1215 dX11_walk_140 ?_
                refine x_iload hx hb hl 2 rfl dX11_walk_143 ?_
                refine x_bald hx hb hE hW (Or.inl (by decide)) (sa_289 h0 g _) (by omega) (by decide) dX11_walk_145 ?_
                refine x_rd hW (fun x105 ex105 rx105 => ?_)
                obtain ⟨y107, ey107, ry107⟩ := xnb x105
                refine x_bast (w := y107) hx hb hE hW (by decide) (fun σ => sa_275 h0 g σ) (by omega) (by decide) ey107 ry107 dX11_walk_146 (fun H locs s106 es106 hW => ?_)
                have q108 : s106 269 37 = s0 269 37 := (show s106 269 37 = s_119 269 37 from by rw [es106, xU_k _ _ _ (by omega)]).trans q119_0
                have q109 : IMn s106 := by rw [es106]; exact IMn_o (by unfold suIMn; omega) q119_1
                have q110 : IMk s106 := by rw [es106]; exact IMk_o (by unfold suIMk; omega) q119_2
                have q111 : IMo s106 := by rw [es106]; exact IMo_o (by unfold suIMo; omega) q119_3
                have q112 : IR s106 := by rw [es106]; exact IR_o (by unfold suIR; omega) q119_4
                have q113 : s106 268 8 = 0 := (show s106 268 8 = s_119 268 8 from by rw [es106, xU_k _ _ _ (by omega)]).trans q119_5
                have q114 : s106 268 58 = s0 268 58 := (show s106 268 58 = s_119 268 58 from by rw [es106, xU_k _ _ _ (by omega)]).trans q119_6
                have q115 : s106 268 10 = n := (show s106 268 10 = s_119 268 10 from by rw [es106, xU_k _ _ _ (by omega)]).trans q119_7
                have q116 : s106 268 14 = s43 268 14 := (show s106 268 14 = s_119 268 14 from by rw [es106, xU_k _ _ _ (by omega)]).trans q119_8
                have q117 : s106 268 15 = s43 268 15 := (show s106 268 15 = s_119 268 15 from by rw [es106, xU_k _ _ _ (by omega)]).trans q119_9
                have q118 : s106 268 16 = s43 268 16 := (show s106 268 16 = s_119 268 16 from by rw [es106, xU_k _ _ _ (by omega)]).trans q119_10
                have hF119 := hF_119.put es106 (by omega)
                refine x_iinc (lv' := [(4, .int (xJ (i4_119 + 1))), (0, .ref (h0 + 268)), (1, .int (xJ j))]) hx hb hl 2 rfl dX11_walk_147 (by decide) rfl (fun ls hl => ?_)
                refine lv_goto (tgt := 119) hx hb dX11_walk_150 (by decide) ?_
                exact ih119 (i4_119 + 1) s106 H locs ls (by omega) hF119 q108 q109 q110 q111 q112 q113 q114 q115 q116 q117 q118 (by omega) (by rw [es106, xU_k _ _ _ (by omega)]; exact v119_1) (by omega) hW (lv_sub hl [1, 2, 0] rfl)
            exact L119 ((60 - 0 : Int).toNat + 1) 0 s89 H locs ls (by decide) hF101 q90 q91 q92 q93 q94 q95 q96 q97 q98 q99 q100 (by omega) (Y115) (Nat.lt_succ_self _) hW (lv_sub hl [1, 2, 0] rfl)
          refine x_aload_n hx hb hl 0 rfl dX11_walk_92 rfl ?_
          refine x_get (j := 11) (v := .int (xJ (s61 268 11))) hx hb hown hT hE hW cls_X11 (Or.inl (by decide)) (so_268 h0 g _) (by decide) rfl wq1196 dX11_walk_93 ?_
          refine x_rd hW (fun x120 ex120 rx120 => ?_)
          rw [eQ]
          exact x_iret hx hb hr hlk hW rx120 ⟨hF73, ⟨q63, q64, q65, q68, q62, trivial⟩, by omega⟩ dX11_walk_96
        refine x_if_eq (tgt := 83) hx hb ri3_53 dX11_walk_54 (by decide) (fun c121 => ?_) (fun c121 => ?_)
        · skip
          exact J83 ls (v53_0)  (lv_sub hl [0, 1, 2] rfl)
        refine x_aload_n hx hb hl 0 rfl dX11_walk_57 rfl ?_
        refine x_get (j := 9) (v := .int (xJ (s_53 268 9))) hx hb hown hT hE hW cls_X11 (Or.inl (by decide)) (so_268 h0 g _) (by decide) rfl wq1194 dX11_walk_58 ?_
        refine x_rd hW (fun x122 ex122 rx122 => ?_)
        have bx122 : 0 ≤ x122 ∧ x122 ≤ s_53 268 10 ∧ s_53 268 10 ≤ 240 := by rw [ex122]; exact q53_4
        refine x_aload_n hx hb hl 0 rfl dX11_walk_61 rfl ?_
        refine x_get (j := 10) (v := .int (xJ (s_53 268 10))) hx hb hown hT hE hW cls_X11 (Or.inl (by decide)) (so_268 h0 g _) (by decide) rfl wq1195 dX11_walk_62 ?_
        refine x_rd hW (fun x123 ex123 rx123 => ?_)
        have fx123 : x123 = n := ex123.trans q53_7
        refine x_icmp_lt (tgt := 75) hx hb rx122 rx123 dX11_walk_65 (by decide) (fun c124 => ?_) (fun c124 => ?_)
        · skip
          refine x_aload_n hx hb hl 0 rfl dX11_walk_75 rfl ?_
          refine x_goi (x_runV (As := []) hx hb hml hown hT hE hW hl.1 (Or.inl (by decide)) (so_268 h0 g _) rfl cf_X11_readsStep wq1446 wq112 wq1444 (c_X11_readsStep l D g T h0 s_53 hW.2.1 ((v53_0.resolve_left (fun q => by omega)).2) q53_1 q53_2 q53_3 q53_4) ⟨rfl, rfl, ⟨by decide, by decide⟩, ⟨by decide, by decide⟩⟩ rfl rfl (Nat.le_of_ble_eq_true rfl) dX11_walk_76) hW (fun x125 s126 H locs rx125 hp127 hW => ?_)
          obtain ⟨fs126, hp127⟩ := hp127
          have hF128 := hF_53.call fs126 (fun k h => by omega)
          have q129 : s126 269 37 = s0 269 37 := (congrFun (fs126 _ (by omega)) _).trans q53_0
          have ghp127 := hp127.2
          have G76 := ghp127
          have r76 : 0 ≤ s126 268 9 ∧ s126 268 9 ≤ s126 268 10 ∧ s126 268 10 ≤ 240 := hp127.1.2.2.2.1
          refine lv_istore_n (lv' := [(3, .int (xJ x125)), (0, .ref (h0 + 268)), (1, .int (xJ j))]) hx hb dX11_walk_79 rfl hl (by decide) rfl (fun ls hl => ?_)
          refine lv_goto (tgt := 53) hx hb dX11_walk_80 (by decide) ?_
          exact ih53 x125 s126 H locs ls rx125 hF128 q129 hp127.1.1 hp127.1.2.1 hp127.1.2.2.1 hp127.1.2.2.2.1 (hp127.1.2.2.2.2.1.trans q53_5) (hp127.1.2.2.2.2.2.1.trans q53_6) (hp127.1.2.2.2.2.2.2.1.trans q53_7) (hp127.1.2.2.2.2.2.2.2.1.trans q53_8) (hp127.1.2.2.2.2.2.2.2.2.1.trans q53_9) (hp127.1.2.2.2.2.2.2.2.2.2.1.trans q53_10) (G76.elim (fun q => Or.inl q.1) (fun q => Or.inr ⟨q.1, q.2.1⟩)) (by omega) hW (lv_sub hl [1, 2, 0] rfl)
        refine x_aload_n hx hb hl 0 rfl dX11_walk_68 rfl ?_
        refine x_get (j := 35) (v := .int (xJ (s_53 268 35))) hx hb hown hT hE hW cls_X11 (Or.inl (by decide)) (so_268 h0 g _) (by decide) rfl wq1220 dX11_walk_69 ?_
        refine x_rd hW (fun x130 ex130 rx130 => ?_)
        refine x_if_le (tgt := 83) hx hb rx130 dX11_walk_72 (by decide) (fun c131 => ?_) (fun c131 => ?_)
        · skip
          exact J83 ls (v53_0)  (lv_sub hl [0, 1, 2] rfl)
        refine x_aload_n hx hb hl 0 rfl dX11_walk_75 rfl ?_
        refine x_goi (x_runV (As := []) hx hb hml hown hT hE hW hl.1 (Or.inl (by decide)) (so_268 h0 g _) rfl cf_X11_readsStep wq1446 wq112 wq1444 (c_X11_readsStep l D g T h0 s_53 hW.2.1 ((v53_0.resolve_left (fun q => by omega)).2) q53_1 q53_2 q53_3 q53_4) ⟨rfl, rfl, ⟨by decide, by decide⟩, ⟨by decide, by decide⟩⟩ rfl rfl (Nat.le_of_ble_eq_true rfl) dX11_walk_76) hW (fun x132 s133 H locs rx132 hp134 hW => ?_)
        obtain ⟨fs133, hp134⟩ := hp134
        have hF135 := hF_53.call fs133 (fun k h => by omega)
        have q136 : s133 269 37 = s0 269 37 := (congrFun (fs133 _ (by omega)) _).trans q53_0
        have ghp134 := hp134.2
        have G76 := ghp134
        have r76 : 0 ≤ s133 268 9 ∧ s133 268 9 ≤ s133 268 10 ∧ s133 268 10 ≤ 240 := hp134.1.2.2.2.1
        refine lv_istore_n (lv' := [(3, .int (xJ x132)), (0, .ref (h0 + 268)), (1, .int (xJ j))]) hx hb dX11_walk_79 rfl hl (by decide) rfl (fun ls hl => ?_)
        refine lv_goto (tgt := 53) hx hb dX11_walk_80 (by decide) ?_
        exact ih53 x132 s133 H locs ls rx132 hF135 q136 hp134.1.1 hp134.1.2.1 hp134.1.2.2.1 hp134.1.2.2.2.1 (hp134.1.2.2.2.2.1.trans q53_5) (hp134.1.2.2.2.2.2.1.trans q53_6) (hp134.1.2.2.2.2.2.2.1.trans q53_7) (hp134.1.2.2.2.2.2.2.2.1.trans q53_8) (hp134.1.2.2.2.2.2.2.2.2.1.trans q53_9) (hp134.1.2.2.2.2.2.2.2.2.2.1.trans q53_10) (G76.elim (fun q => Or.inl q.1) (fun q => Or.inr ⟨q.1, q.2.1⟩)) (by omega) hW (lv_sub hl [1, 2, 0] rfl)
    exact L53 ((2 * (241 - s57 268 9) + x56 : Int).toNat + 1) x56 s57 H locs ls rx56 hF59 q60 hp58.1.1 hp58.1.2.1 hp58.1.2.2.1 hp58.1.2.2.2.1 (hp58.1.2.2.2.2.1.trans q49) (hp58.1.2.2.2.2.2.1.trans q47) (hp58.1.2.2.2.2.2.2.1.trans q51) hp58.1.2.2.2.2.2.2.2.1 hp58.1.2.2.2.2.2.2.2.2.1 hp58.1.2.2.2.2.2.2.2.2.2.1 (G49.elim (fun q => Or.inl q.1) (fun q => Or.inr ⟨q.1, q.2.1⟩)) (Nat.lt_succ_self _) hW (lv_sub hl [1, 2, 0] rfl)
  refine x_iconst hx hb dX11_walk_26 ?_
  rw [eQ]
  exact x_iret hx hb hr hlk hW (by decide) ⟨hF, ⟨p0, p1, p2, k268_58, k269_37, trivial⟩, by omega⟩ dX11_walk_27

