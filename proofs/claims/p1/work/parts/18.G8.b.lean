set_option maxHeartbeats 4000000 in
set_option maxRecDepth 100000 in
theorem c_X11_copiesA (l : Launch) (D : va_G) (g : xG) (T : Nat × Nat × Nat) (h0 : Nat) (s0 : xS) (hσ : xRR s0) (p0 : s0 269 34 = 0) (p1 : s0 269 35 = 0) (p2 : s0 269 36 = 0) (p3 : 0 ≤ s0 269 37 ∧ s0 269 37 ≤ 9999) (p4 : 0 ≤ s0 269 38 ∧ s0 269 38 ≤ 65535) : Met l yX11_copies (xws yX11_copies cX11_copies 3 none) { frames := 0, cells := 0, slots := 0, locals := 0 } (xP [.ref (h0 + 269), .ref (h0 + 270)] D g T h0 s0) (xQv D g h0 (fun τ => xFr (fun k => k = 270) s0 τ ∧ (((τ 270 34 = 0) ∧ (τ 270 35 = 0) ∧ (τ 270 36 = 0) ∧ (0 ≤ τ 270 37 ∧ τ 270 37 ≤ 9999) ∧ (0 ≤ τ 270 38 ∧ τ 270 38 ≤ 65535) ∧ True) ∧ (True)))) 0 0 (xA h0) := by
  refine x_met hσ (by decide) (Nat.le_of_ble_eq_true rfl) ?_
  intro p e s m args below meth c hx hb hr hml hown hT hlk hnm hE hW ls hl
  have hl : lv_has ls 3 [(0, .ref (h0 + 269)), (1, .ref (h0 + 270))] := hl
  obtain ⟨Q, eQ⟩ : ∃ Q, Q = MQ below (xQv D g h0 (fun τ => xFr (fun k => k = 270) s0 τ ∧ (((τ 270 34 = 0) ∧ (τ 270 35 = 0) ∧ (τ 270 36 = 0) ∧ (0 ≤ τ 270 37 ∧ τ 270 37 ≤ 9999) ∧ (0 ≤ τ 270 38 ∧ τ 270 38 ≤ 65535) ∧ True) ∧ (True)))) args s 0 0 (xA h0) := ⟨_, rfl⟩
  rw [← eQ]
  generalize hHe : ([] : List Loc) = locs at hW ⊢
  obtain ⟨H, eH⟩ : ∃ H, H = s.heap := ⟨_, rfl⟩
  rw [← eH] at hW ⊢
  have hF : xFr (fun k => k = 270) s0 s0 := xFr.rf
  refine x_iconst hx hb dX11_copies_0 ?_
  refine lv_istore_n (lv' := [(2, .int (xJ 0)), (0, .ref (h0 + 269)), (1, .ref (h0 + 270))]) hx hb dX11_copies_1 rfl hl (by decide) rfl (fun ls hl => ?_)
  have L2 : ∀ (fu : Nat) (i2_2 : Int) (s_2 : xS) (H : Heap) (locs : List Loc) (ls : Array Slot), (xR i2_2) → (xFr (fun k => k = 270) s0 s_2) → (s_2 269 34 = 0) → (s_2 269 35 = 0) → (s_2 269 36 = 0) → (0 ≤ s_2 269 37 ∧ s_2 269 37 ≤ 9999) → (0 ≤ s_2 269 38 ∧ s_2 269 38 ≤ 65535) → (0 ≤ i2_2) → (∀ j : Int, 0 ≤ j → j < i2_2 → s_2 270 j = s0 269 j) → (39 - i2_2).toNat < fu → xW D g h0 s H locs s_2 → lv_has ls 3 [(0, .ref (h0 + 269)), (1, .ref (h0 + 270)), (2, .int (xJ i2_2))] → W p l e { frames := 0, cells := 0, slots := 0, locals := 0 } s m args below meth c H locs 0 0 Q (F0 m 2 ls []) := by
    intro fu
    induction fu with
    | zero => intro i2_2 s_2 H locs ls ri2_2 hF_2 q2_0 q2_1 q2_2 q2_3 q2_4 v2_0 v2_1 hm; exact absurd hm (Nat.not_lt_zero _)
    | succ fu ih2 =>
      intro i2_2 s_2 H locs ls ri2_2 hF_2 q2_0 q2_1 q2_2 q2_3 q2_4 v2_0 v2_1 hm hW hl
      refine x_iload_n hx hb hl 2 rfl dX11_copies_2 rfl ?_
      refine x_bipush hx hb dX11_copies_3 (by decide) ?_
      refine x_icmp_ge (tgt := 20) hx hb ri2_2 (by decide) dX11_copies_5 (by decide) (fun c1 => ?_) (fun c1 => ?_)
      · skip
        rw [eQ]
        exact x_vret hx hb hr hlk hW ⟨hF_2, ⟨(by rw [v2_1 34 (by omega) (by omega)]; exact p0), (by rw [v2_1 35 (by omega) (by omega)]; exact p1), (by rw [v2_1 36 (by omega) (by omega)]; exact p2), (by rw [v2_1 37 (by omega) (by omega)]; exact p3), (by rw [v2_1 38 (by omega) (by omega)]; exact p4), trivial⟩, trivial⟩ dX11_copies_20
      refine x_aload_n hx hb hl 1 rfl dX11_copies_8 rfl ?_
      refine x_iload_n hx hb hl 2 rfl dX11_copies_9 rfl ?_
      refine x_aload_n hx hb hl 0 rfl dX11_copies_10 rfl ?_
      refine x_iload_n hx hb hl 2 rfl dX11_copies_11 rfl ?_
      refine x_iald hx hb hE hW (Or.inl (by decide)) (sa_269 h0 g _) (by omega) (by decide) dX11_copies_12 ?_
      refine x_rd hW (fun x2 ex2 rx2 => ?_)
      refine x_iast hx hb hE hW (by decide) (fun σ => sa_270 h0 g σ) (by omega) (by decide) rx2 dX11_copies_13 (fun H locs s3 es3 hW => ?_)
      have q4 : s3 269 34 = 0 := by rw [es3, xU_k _ _ _ (by omega)]; exact q2_0
      have q5 : s3 269 35 = 0 := by rw [es3, xU_k _ _ _ (by omega)]; exact q2_1
      have q6 : s3 269 36 = 0 := by rw [es3, xU_k _ _ _ (by omega)]; exact q2_2
      have q7 : 0 ≤ s3 269 37 ∧ s3 269 37 ≤ 9999 := by rw [es3, xU_k _ _ _ (by omega)]; exact q2_3
      have q8 : 0 ≤ s3 269 38 ∧ s3 269 38 ≤ 65535 := by rw [es3, xU_k _ _ _ (by omega)]; exact q2_4
      have hF9 := hF_2.put es3 (by omega)
      refine x_iinc (lv' := [(2, .int (xJ (i2_2 + 1))), (0, .ref (h0 + 269)), (1, .ref (h0 + 270))]) hx hb hl 2 rfl dX11_copies_14 (by decide) rfl (fun ls hl => ?_)
      refine lv_goto (tgt := 2) hx hb dX11_copies_17 (by decide) ?_
      exact ih2 (i2_2 + 1) s3 H locs ls (by omega) hF9 q4 q5 q6 q7 q8 (by omega) (fun j h1 h2 => by rw [es3, xU_i]; split <;> first | (rename_i h; rw [h, ex2, hF_2 269 (by omega)]) | exact v2_1 j h1 (by omega)) (by omega) hW (lv_sub hl [1, 2, 0] rfl)
  exact L2 ((39 - 0 : Int).toNat + 1) 0 s0 H locs ls (by decide) hF p0 p1 p2 p3 p4 (by omega) (fun j h1 h2 => False.elim (by omega)) (Nat.lt_succ_self _) hW (lv_sub hl [1, 2, 0] rfl)
set_option maxHeartbeats 4000000 in
set_option maxRecDepth 100000 in
theorem c_X11_copiesB (l : Launch) (D : va_G) (g : xG) (T : Nat × Nat × Nat) (h0 : Nat) (s0 : xS) (hσ : xRR s0) (p0 : s0 270 34 = 0) (p1 : s0 270 35 = 0) (p2 : s0 270 36 = 0) (p3 : 0 ≤ s0 270 37 ∧ s0 270 37 ≤ 9999) (p4 : 0 ≤ s0 270 38 ∧ s0 270 38 ≤ 65535) : Met l yX11_copies (xws yX11_copies cX11_copies 3 none) { frames := 0, cells := 0, slots := 0, locals := 0 } (xP [.ref (h0 + 270), .ref (h0 + 269)] D g T h0 s0) (xQv D g h0 (fun τ => xFr (fun k => k = 269) s0 τ ∧ (((τ 269 34 = 0) ∧ (τ 269 35 = 0) ∧ (τ 269 36 = 0) ∧ (0 ≤ τ 269 37 ∧ τ 269 37 ≤ 9999) ∧ (0 ≤ τ 269 38 ∧ τ 269 38 ≤ 65535) ∧ True) ∧ (True)))) 0 0 (xA h0) := by
  refine x_met hσ (by decide) (Nat.le_of_ble_eq_true rfl) ?_
  intro p e s m args below meth c hx hb hr hml hown hT hlk hnm hE hW ls hl
  have hl : lv_has ls 3 [(0, .ref (h0 + 270)), (1, .ref (h0 + 269))] := hl
  obtain ⟨Q, eQ⟩ : ∃ Q, Q = MQ below (xQv D g h0 (fun τ => xFr (fun k => k = 269) s0 τ ∧ (((τ 269 34 = 0) ∧ (τ 269 35 = 0) ∧ (τ 269 36 = 0) ∧ (0 ≤ τ 269 37 ∧ τ 269 37 ≤ 9999) ∧ (0 ≤ τ 269 38 ∧ τ 269 38 ≤ 65535) ∧ True) ∧ (True)))) args s 0 0 (xA h0) := ⟨_, rfl⟩
  rw [← eQ]
  generalize hHe : ([] : List Loc) = locs at hW ⊢
  obtain ⟨H, eH⟩ : ∃ H, H = s.heap := ⟨_, rfl⟩
  rw [← eH] at hW ⊢
  have hF : xFr (fun k => k = 269) s0 s0 := xFr.rf
  refine x_iconst hx hb dX11_copies_0 ?_
  refine lv_istore_n (lv' := [(2, .int (xJ 0)), (0, .ref (h0 + 270)), (1, .ref (h0 + 269))]) hx hb dX11_copies_1 rfl hl (by decide) rfl (fun ls hl => ?_)
  have L2 : ∀ (fu : Nat) (i2_2 : Int) (s_2 : xS) (H : Heap) (locs : List Loc) (ls : Array Slot), (xR i2_2) → (xFr (fun k => k = 269) s0 s_2) → (s_2 270 34 = 0) → (s_2 270 35 = 0) → (s_2 270 36 = 0) → (0 ≤ s_2 270 37 ∧ s_2 270 37 ≤ 9999) → (0 ≤ s_2 270 38 ∧ s_2 270 38 ≤ 65535) → (0 ≤ i2_2) → (∀ j : Int, 0 ≤ j → j < i2_2 → s_2 269 j = s0 270 j) → (39 - i2_2).toNat < fu → xW D g h0 s H locs s_2 → lv_has ls 3 [(0, .ref (h0 + 270)), (1, .ref (h0 + 269)), (2, .int (xJ i2_2))] → W p l e { frames := 0, cells := 0, slots := 0, locals := 0 } s m args below meth c H locs 0 0 Q (F0 m 2 ls []) := by
    intro fu
    induction fu with
    | zero => intro i2_2 s_2 H locs ls ri2_2 hF_2 q2_0 q2_1 q2_2 q2_3 q2_4 v2_0 v2_1 hm; exact absurd hm (Nat.not_lt_zero _)
    | succ fu ih2 =>
      intro i2_2 s_2 H locs ls ri2_2 hF_2 q2_0 q2_1 q2_2 q2_3 q2_4 v2_0 v2_1 hm hW hl
      refine x_iload_n hx hb hl 2 rfl dX11_copies_2 rfl ?_
      refine x_bipush hx hb dX11_copies_3 (by decide) ?_
      refine x_icmp_ge (tgt := 20) hx hb ri2_2 (by decide) dX11_copies_5 (by decide) (fun c1 => ?_) (fun c1 => ?_)
      · skip
        rw [eQ]
        exact x_vret hx hb hr hlk hW ⟨hF_2, ⟨(by rw [v2_1 34 (by omega) (by omega)]; exact p0), (by rw [v2_1 35 (by omega) (by omega)]; exact p1), (by rw [v2_1 36 (by omega) (by omega)]; exact p2), (by rw [v2_1 37 (by omega) (by omega)]; exact p3), (by rw [v2_1 38 (by omega) (by omega)]; exact p4), trivial⟩, trivial⟩ dX11_copies_20
      refine x_aload_n hx hb hl 1 rfl dX11_copies_8 rfl ?_
      refine x_iload_n hx hb hl 2 rfl dX11_copies_9 rfl ?_
      refine x_aload_n hx hb hl 0 rfl dX11_copies_10 rfl ?_
      refine x_iload_n hx hb hl 2 rfl dX11_copies_11 rfl ?_
      refine x_iald hx hb hE hW (Or.inl (by decide)) (sa_270 h0 g _) (by omega) (by decide) dX11_copies_12 ?_
      refine x_rd hW (fun x2 ex2 rx2 => ?_)
      refine x_iast hx hb hE hW (by decide) (fun σ => sa_269 h0 g σ) (by omega) (by decide) rx2 dX11_copies_13 (fun H locs s3 es3 hW => ?_)
      have q4 : s3 270 34 = 0 := by rw [es3, xU_k _ _ _ (by omega)]; exact q2_0
      have q5 : s3 270 35 = 0 := by rw [es3, xU_k _ _ _ (by omega)]; exact q2_1
      have q6 : s3 270 36 = 0 := by rw [es3, xU_k _ _ _ (by omega)]; exact q2_2
      have q7 : 0 ≤ s3 270 37 ∧ s3 270 37 ≤ 9999 := by rw [es3, xU_k _ _ _ (by omega)]; exact q2_3
      have q8 : 0 ≤ s3 270 38 ∧ s3 270 38 ≤ 65535 := by rw [es3, xU_k _ _ _ (by omega)]; exact q2_4
      have hF9 := hF_2.put es3 (by omega)
      refine x_iinc (lv' := [(2, .int (xJ (i2_2 + 1))), (0, .ref (h0 + 270)), (1, .ref (h0 + 269))]) hx hb hl 2 rfl dX11_copies_14 (by decide) rfl (fun ls hl => ?_)
      refine lv_goto (tgt := 2) hx hb dX11_copies_17 (by decide) ?_
      exact ih2 (i2_2 + 1) s3 H locs ls (by omega) hF9 q4 q5 q6 q7 q8 (by omega) (fun j h1 h2 => by rw [es3, xU_i]; split <;> first | (rename_i h; rw [h, ex2, hF_2 270 (by omega)]) | exact v2_1 j h1 (by omega)) (by omega) hW (lv_sub hl [1, 2, 0] rfl)
  exact L2 ((39 - 0 : Int).toNat + 1) 0 s0 H locs ls (by decide) hF p0 p1 p2 p3 p4 (by omega) (fun j h1 h2 => False.elim (by omega)) (Nat.lt_succ_self _) hW (lv_sub hl [1, 2, 0] rfl)
set_option maxHeartbeats 4000000 in
set_option maxRecDepth 100000 in
theorem c_X11_copiesK (l : Launch) (D : va_G) (g : xG) (T : Nat × Nat × Nat) (h0 : Nat) (s0 : xS) (hσ : xRR s0) : Met l yX11_copies (xws yX11_copies cX11_copies 3 none) { frames := 0, cells := 0, slots := 0, locals := 0 } (xP [.ref (h0 + 269), .ref (h0 + 271)] D g T h0 s0) (xQv D g h0 (fun τ => xFr (fun k => k = 271) s0 τ ∧ (True))) 0 0 (xA h0) := by
  refine x_met hσ (by decide) (Nat.le_of_ble_eq_true rfl) ?_
  intro p e s m args below meth c hx hb hr hml hown hT hlk hnm hE hW ls hl
  have hl : lv_has ls 3 [(0, .ref (h0 + 269)), (1, .ref (h0 + 271))] := hl
  obtain ⟨Q, eQ⟩ : ∃ Q, Q = MQ below (xQv D g h0 (fun τ => xFr (fun k => k = 271) s0 τ ∧ (True))) args s 0 0 (xA h0) := ⟨_, rfl⟩
  rw [← eQ]
  generalize hHe : ([] : List Loc) = locs at hW ⊢
  obtain ⟨H, eH⟩ : ∃ H, H = s.heap := ⟨_, rfl⟩
  rw [← eH] at hW ⊢
  have hF : xFr (fun k => k = 271) s0 s0 := xFr.rf
  refine x_iconst hx hb dX11_copies_0 ?_
  refine lv_istore_n (lv' := [(2, .int (xJ 0)), (0, .ref (h0 + 269)), (1, .ref (h0 + 271))]) hx hb dX11_copies_1 rfl hl (by decide) rfl (fun ls hl => ?_)
  have L2 : ∀ (fu : Nat) (i2_2 : Int) (s_2 : xS) (H : Heap) (locs : List Loc) (ls : Array Slot), (xR i2_2) → (xFr (fun k => k = 271) s0 s_2) → (0 ≤ i2_2) → (39 - i2_2).toNat < fu → xW D g h0 s H locs s_2 → lv_has ls 3 [(0, .ref (h0 + 269)), (1, .ref (h0 + 271)), (2, .int (xJ i2_2))] → W p l e { frames := 0, cells := 0, slots := 0, locals := 0 } s m args below meth c H locs 0 0 Q (F0 m 2 ls []) := by
    intro fu
    induction fu with
    | zero => intro i2_2 s_2 H locs ls ri2_2 hF_2 v2_0 hm; exact absurd hm (Nat.not_lt_zero _)
    | succ fu ih2 =>
      intro i2_2 s_2 H locs ls ri2_2 hF_2 v2_0 hm hW hl
      refine x_iload_n hx hb hl 2 rfl dX11_copies_2 rfl ?_
      refine x_bipush hx hb dX11_copies_3 (by decide) ?_
      refine x_icmp_ge (tgt := 20) hx hb ri2_2 (by decide) dX11_copies_5 (by decide) (fun c1 => ?_) (fun c1 => ?_)
      · skip
        rw [eQ]
        exact x_vret hx hb hr hlk hW ⟨hF_2, trivial⟩ dX11_copies_20
      refine x_aload_n hx hb hl 1 rfl dX11_copies_8 rfl ?_
      refine x_iload_n hx hb hl 2 rfl dX11_copies_9 rfl ?_
      refine x_aload_n hx hb hl 0 rfl dX11_copies_10 rfl ?_
      refine x_iload_n hx hb hl 2 rfl dX11_copies_11 rfl ?_
      refine x_iald hx hb hE hW (Or.inl (by decide)) (sa_269 h0 g _) (by omega) (by decide) dX11_copies_12 ?_
      refine x_rd hW (fun x2 ex2 rx2 => ?_)
      refine x_iast hx hb hE hW (by decide) (fun σ => sa_271 h0 g σ) (by omega) (by decide) rx2 dX11_copies_13 (fun H locs s3 es3 hW => ?_)
      have hF4 := hF_2.put es3 (by omega)
      refine x_iinc (lv' := [(2, .int (xJ (i2_2 + 1))), (0, .ref (h0 + 269)), (1, .ref (h0 + 271))]) hx hb hl 2 rfl dX11_copies_14 (by decide) rfl (fun ls hl => ?_)
      refine lv_goto (tgt := 2) hx hb dX11_copies_17 (by decide) ?_
      exact ih2 (i2_2 + 1) s3 H locs ls (by omega) hF4 (by omega) (by omega) hW (lv_sub hl [1, 2, 0] rfl)
  exact L2 ((39 - 0 : Int).toNat + 1) 0 s0 H locs ls (by decide) hF (by omega) (Nat.lt_succ_self _) hW (lv_sub hl [1, 2, 0] rfl)
set_option maxHeartbeats 4000000 in
set_option maxRecDepth 100000 in
theorem c_X11_copiesWalks (l : Launch) (D : va_G) (g : xG) (T : Nat × Nat × Nat) (h0 : Nat) (s0 : xS) (hσ : xRR s0) : Met l yX11_copiesWalks (xws yX11_copiesWalks cX11_copiesWalks 5 none) { frames := 0, cells := 0, slots := 0, locals := 0 } (xP [.ref (h0 + 274), .ref (h0 + 275), .ref (h0 + 308), .ref (h0 + 309)] D g T h0 s0) (xQv D g h0 (fun τ => xFr (fun k => k = 308 ∨ k = 309) s0 τ ∧ (True))) 0 0 (xA h0) := by
  refine x_met hσ (by decide) (Nat.le_of_ble_eq_true rfl) ?_
  intro p e s m args below meth c hx hb hr hml hown hT hlk hnm hE hW ls hl
  have hl : lv_has ls 5 [(0, .ref (h0 + 274)), (1, .ref (h0 + 275)), (2, .ref (h0 + 308)), (3, .ref (h0 + 309))] := hl
  obtain ⟨Q, eQ⟩ : ∃ Q, Q = MQ below (xQv D g h0 (fun τ => xFr (fun k => k = 308 ∨ k = 309) s0 τ ∧ (True))) args s 0 0 (xA h0) := ⟨_, rfl⟩
  rw [← eQ]
  generalize hHe : ([] : List Loc) = locs at hW ⊢
  obtain ⟨H, eH⟩ : ∃ H, H = s.heap := ⟨_, rfl⟩
  rw [← eH] at hW ⊢
  have hF : xFr (fun k => k = 308 ∨ k = 309) s0 s0 := xFr.rf
  refine x_iconst hx hb dX11_copiesWalks_0 ?_
  refine lv_istore (lv' := [(4, .int (xJ 0)), (0, .ref (h0 + 274)), (1, .ref (h0 + 275)), (2, .ref (h0 + 308)), (3, .ref (h0 + 309))]) hx hb dX11_copiesWalks_1 hl (by decide) rfl (fun ls hl => ?_)
  have L3 : ∀ (fu : Nat) (i4_3 : Int) (s_3 : xS) (H : Heap) (locs : List Loc) (ls : Array Slot), (xR i4_3) → (xFr (fun k => k = 308 ∨ k = 309) s0 s_3) → (0 ≤ i4_3) → (2 - i4_3).toNat < fu → xW D g h0 s H locs s_3 → lv_has ls 5 [(0, .ref (h0 + 274)), (1, .ref (h0 + 275)), (2, .ref (h0 + 308)), (3, .ref (h0 + 309)), (4, .int (xJ i4_3))] → W p l e { frames := 0, cells := 0, slots := 0, locals := 0 } s m args below meth c H locs 0 0 Q (F0 m 3 ls []) := by
    intro fu
    induction fu with
    | zero => intro i4_3 s_3 H locs ls ri4_3 hF_3 v3_0 hm; exact absurd hm (Nat.not_lt_zero _)
    | succ fu ih3 =>
      intro i4_3 s_3 H locs ls ri4_3 hF_3 v3_0 hm hW hl
      refine x_iload hx hb hl 4 rfl dX11_copiesWalks_3 ?_
      refine x_iconst hx hb dX11_copiesWalks_5 ?_
      refine x_icmp_ge (tgt := 23) hx hb ri4_3 (by decide) dX11_copiesWalks_6 (by decide) (fun c1 => ?_) (fun c1 => ?_)
      · skip
        refine x_iconst hx hb dX11_copiesWalks_23 ?_
        refine lv_istore (lv' := [(4, .int (xJ 0)), (0, .ref (h0 + 274)), (1, .ref (h0 + 275)), (2, .ref (h0 + 308)), (3, .ref (h0 + 309))]) hx hb dX11_copiesWalks_24 hl (by decide) rfl (fun ls hl => ?_)
        have L26 : ∀ (fu : Nat) (i4_26 : Int) (s_26 : xS) (H : Heap) (locs : List Loc) (ls : Array Slot), (xR i4_26) → (xFr (fun k => k = 308 ∨ k = 309) s0 s_26) → (0 ≤ i4_26) → (120 - i4_26).toNat < fu → xW D g h0 s H locs s_26 → lv_has ls 5 [(1, .ref (h0 + 275)), (3, .ref (h0 + 309)), (4, .int (xJ i4_26))] → W p l e { frames := 0, cells := 0, slots := 0, locals := 0 } s m args below meth c H locs 0 0 Q (F0 m 26 ls []) := by
          intro fu
          induction fu with
          | zero => intro i4_26 s_26 H locs ls ri4_26 hF_26 v26_0 hm; exact absurd hm (Nat.not_lt_zero _)
          | succ fu ih26 =>
            intro i4_26 s_26 H locs ls ri4_26 hF_26 v26_0 hm hW hl
            refine x_iload hx hb hl 2 rfl dX11_copiesWalks_26 ?_
            refine x_bipush hx hb dX11_copiesWalks_28 (by decide) ?_
            refine x_icmp_ge (tgt := 47) hx hb ri4_26 (by decide) dX11_copiesWalks_30 (by decide) (fun c2 => ?_) (fun c2 => ?_)
            · skip
              rw [eQ]
              exact x_vret hx hb hr hlk hW ⟨hF_26, trivial⟩ dX11_copiesWalks_47
            refine x_aload_n hx hb hl 1 rfl dX11_copiesWalks_33 rfl ?_
            refine x_iload hx hb hl 2 rfl dX11_copiesWalks_34 ?_
            refine x_aload_n hx hb hl 0 rfl dX11_copiesWalks_36 rfl ?_
            refine x_iload hx hb hl 2 rfl dX11_copiesWalks_37 ?_
            refine x_bald hx hb hE hW (Or.inl (by decide)) (sa_275 h0 g _) (by omega) (by decide) dX11_copiesWalks_39 ?_
            refine x_rd hW (fun x3 ex3 rx3 => ?_)
            obtain ⟨y5, ey5, ry5⟩ := xnb x3
            refine x_bast (w := y5) hx hb hE hW (by decide) (fun σ => sa_309 h0 g σ) (by omega) (by decide) ey5 ry5 dX11_copiesWalks_40 (fun H locs s4 es4 hW => ?_)
            have hF6 := hF_26.put es4 (by omega)
            refine x_iinc (lv' := [(4, .int (xJ (i4_26 + 1))), (1, .ref (h0 + 275)), (3, .ref (h0 + 309))]) hx hb hl 2 rfl dX11_copiesWalks_41 (by decide) rfl (fun ls hl => ?_)
            refine lv_goto (tgt := 26) hx hb dX11_copiesWalks_44 (by decide) ?_
            exact ih26 (i4_26 + 1) s4 H locs ls (by omega) hF6 (by omega) (by omega) hW (lv_sub hl [1, 2, 0] rfl)
        exact L26 ((120 - 0 : Int).toNat + 1) 0 s_3 H locs ls (by decide) hF_3 (by omega) (Nat.lt_succ_self _) hW (lv_sub hl [2, 4, 0] rfl)
      refine x_aload_n hx hb hl 2 rfl dX11_copiesWalks_9 rfl ?_
      refine x_iload hx hb hl 4 rfl dX11_copiesWalks_10 ?_
      refine x_aload_n hx hb hl 0 rfl dX11_copiesWalks_12 rfl ?_
      refine x_iload hx hb hl 4 rfl dX11_copiesWalks_13 ?_
      refine x_iald hx hb hE hW (Or.inl (by decide)) (sa_274 h0 g _) (by omega) (by decide) dX11_copiesWalks_15 ?_
      refine x_rd hW (fun x7 ex7 rx7 => ?_)
      refine x_iast hx hb hE hW (by decide) (fun σ => sa_308 h0 g σ) (by omega) (by decide) rx7 dX11_copiesWalks_16 (fun H locs s8 es8 hW => ?_)
      have hF9 := hF_3.put es8 (by omega)
      refine x_iinc (lv' := [(4, .int (xJ (i4_3 + 1))), (0, .ref (h0 + 274)), (1, .ref (h0 + 275)), (2, .ref (h0 + 308)), (3, .ref (h0 + 309))]) hx hb hl 4 rfl dX11_copiesWalks_17 (by decide) rfl (fun ls hl => ?_)
      refine lv_goto (tgt := 3) hx hb dX11_copiesWalks_20 (by decide) ?_
      exact ih3 (i4_3 + 1) s8 H locs ls (by omega) hF9 (by omega) (by omega) hW (lv_sub hl [1, 2, 3, 4, 0] rfl)
  exact L3 ((2 - 0 : Int).toNat + 1) 0 s0 H locs ls (by decide) hF (by omega) (Nat.lt_succ_self _) hW (lv_sub hl [1, 2, 3, 4, 0] rfl)
set_option maxHeartbeats 4000000 in
set_option maxRecDepth 100000 in
theorem c_X11_freeMany (l : Launch) (D : va_G) (g : xG) (T : Nat × Nat × Nat) (h0 : Nat) (s0 : xS) (hσ : xRR s0) (p0 : s0 269 35 = 0) : Met l yX11_freeMany (xws yX11_freeMany cX11_freeMany 3 (some .int)) { frames := 2, cells := 0, slots := 0, locals := 42 } (xP [.ref (h0 + 268)] D g T h0 s0) (xQi D g h0 (fun r τ => s0 = τ ∧ (r = 0))) 0 0 (xA h0) := by
  refine x_met hσ (by decide) (Nat.le_of_ble_eq_true rfl) ?_
  intro p e s m args below meth c hx hb hr hml hown hT hlk hnm hE hW ls hl
  have hl : lv_has ls 3 [(0, .ref (h0 + 268))] := hl
  obtain ⟨Q, eQ⟩ : ∃ Q, Q = MQ below (xQi D g h0 (fun r τ => s0 = τ ∧ (r = 0))) args s 0 0 (xA h0) := ⟨_, rfl⟩
  rw [← eQ]
  generalize hHe : ([] : List Loc) = locs at hW ⊢
  obtain ⟨H, eH⟩ : ∃ H, H = s.heap := ⟨_, rfl⟩
  rw [← eH] at hW ⊢
  refine x_iconst hx hb dX11_freeMany_0 ?_
  refine lv_istore_n (lv' := [(1, .int (xJ 0)), (0, .ref (h0 + 268))]) hx hb dX11_freeMany_1 rfl hl (by decide) rfl (fun ls hl => ?_)
  refine x_iconst hx hb dX11_freeMany_2 ?_
  refine lv_istore_n (lv' := [(2, .int (xJ 0)), (1, .int (xJ 0)), (0, .ref (h0 + 268))]) hx hb dX11_freeMany_3 rfl hl (by decide) rfl (fun ls hl => ?_)
  have L4 : ∀ (fu : Nat) (i1_4 : Int) (i2_4 : Int) (H : Heap) (locs : List Loc) (ls : Array Slot), (xR i1_4) → (xR i2_4) → (0 ≤ i2_4) → (i1_4 = 0) → (10 - i2_4).toNat < fu → xW D g h0 s H locs s0 → lv_has ls 3 [(0, .ref (h0 + 268)), (1, .int (xJ i1_4)), (2, .int (xJ i2_4))] → W p l e { frames := 2, cells := 0, slots := 0, locals := 42 } s m args below meth c H locs 0 0 Q (F0 m 4 ls []) := by
    intro fu
    induction fu with
    | zero => intro i1_4 i2_4 H locs ls ri1_4 ri2_4 v4_0 v4_1 hm; exact absurd hm (Nat.not_lt_zero _)
    | succ fu ih4 =>
      intro i1_4 i2_4 H locs ls ri1_4 ri2_4 v4_0 v4_1 hm hW hl
      refine x_iload_n hx hb hl 2 rfl dX11_freeMany_4 rfl ?_
      refine x_bipush hx hb dX11_freeMany_5 (by decide) ?_
      refine x_icmp_ge (tgt := 44) hx hb ri2_4 (by decide) dX11_freeMany_7 (by decide) (fun c1 => ?_) (fun c1 => ?_)
      · skip
        refine x_iload_n hx hb hl 1 rfl dX11_freeMany_44 rfl ?_
        rw [eQ]
        exact x_iret hx hb hr hlk hW ri1_4 ⟨rfl, by omega⟩ dX11_freeMany_45
      refine x_iload_n hx hb hl 1 rfl dX11_freeMany_10 rfl ?_
      refine x_aload_n hx hb hl 0 rfl dX11_freeMany_11 rfl ?_
      refine x_iload_n hx hb hl 2 rfl dX11_freeMany_12 rfl ?_
      refine x_goi (x_runV (As := [.int (xJ i2_4)]) hx hb hml hown hT hE hW hl.1 (Or.inl (by decide)) (so_268 h0 g _) rfl cf_X11_isFelon wq1423 wq111 wq1421 (c_X11_isFelon l D g T h0 s0 hW.2.1 i2_4 ri2_4 p0) ⟨rfl, rfl, ⟨by decide, by decide⟩, ⟨by decide, by decide⟩⟩ rfl rfl (Nat.le_of_ble_eq_true rfl) dX11_freeMany_13) hW (fun x2 s3 H locs rx2 hp4 hW => ?_)
      obtain ⟨es3, hp4⟩ := hp4
      subst es3
      have ghp4 := hp4
      refine x_if_eq (tgt := 35) hx hb rx2 dX11_freeMany_16 (by decide) (fun c5 => ?_) (fun c5 => False.elim (by omega))
      refine x_iconst hx hb dX11_freeMany_35 ?_
      refine x_iadd hx hb dX11_freeMany_36 ?_
      refine x_nm (fun x6 ex6 => ?_)
      refine lv_istore_n (lv' := [(1, .int (xJ x6)), (0, .ref (h0 + 268)), (2, .int (xJ i2_4))]) hx hb dX11_freeMany_37 rfl hl (by decide) rfl (fun ls hl => ?_)
      refine x_iinc (lv' := [(2, .int (xJ (i2_4 + 1))), (1, .int (xJ x6)), (0, .ref (h0 + 268))]) hx hb hl 2 rfl dX11_freeMany_38 (by decide) rfl (fun ls hl => ?_)
      refine lv_goto (tgt := 4) hx hb dX11_freeMany_41 (by decide) ?_
      exact ih4 x6 (i2_4 + 1) H locs ls (by omega) (by omega) (by omega) (by omega) (by omega) hW (lv_sub hl [2, 1, 0] rfl)
  exact L4 ((10 - 0 : Int).toNat + 1) 0 0 H locs ls (by decide) (by decide) (by omega) (by omega) (Nat.lt_succ_self _) hW (lv_sub hl [2, 1, 0] rfl)
set_option maxHeartbeats 4000000 in
set_option maxRecDepth 100000 in
theorem c_X11_tried (l : Launch) (D : va_G) (g : xG) (T : Nat × Nat × Nat) (h0 : Nat) (s0 : xS) (hσ : xRR s0) (n : Int) (rn : xR n) (x : Int) (rx : xR x) (p0 : s0 269 34 = 0) (p1 : s0 269 35 = 0) (p2 : s0 269 36 = 0) (p3 : 0 ≤ s0 269 37 ∧ s0 269 37 ≤ 9999) (p4 : 0 ≤ s0 269 38 ∧ s0 269 38 ≤ 65535) (p5 : s0 295 = fun _ => 0) (p6 : s0 268 17 = 0) (p7 : s0 273 = fun _ => (-1)) : Met l yX11_tried (xws yX11_tried cX11_tried 5 (some .int)) { frames := 6, cells := 0, slots := 0, locals := 133 } (xP [.ref (h0 + 268), .int (xJ n), .int (xJ x)] D g T h0 s0) (xQi D g h0 (fun r τ => xFr (fun k => k = 268 ∨ k = 269 ∨ k = 270 ∨ k = 294 ∨ k = 295 ∨ k = 299) s0 τ ∧ ((r = 0 ∧ 1 ≤ n ∧ n ≤ 120 ∧ 0 ≤ x ∧ x ≤ 5) ∨ (r = -1 ∧ ¬ (1 ≤ n ∧ n ≤ 120 ∧ 0 ≤ x ∧ x ≤ 5))))) 0 0 (xA h0) := by
  refine x_met hσ (by decide) (Nat.le_of_ble_eq_true rfl) ?_
  intro p e s m args below meth c hx hb hr hml hown hT hlk hnm hE hW ls hl
  have hl : lv_has ls 5 [(0, .ref (h0 + 268)), (1, .int (xJ n)), (2, .int (xJ x))] := hl
  obtain ⟨Q, eQ⟩ : ∃ Q, Q = MQ below (xQi D g h0 (fun r τ => xFr (fun k => k = 268 ∨ k = 269 ∨ k = 270 ∨ k = 294 ∨ k = 295 ∨ k = 299) s0 τ ∧ ((r = 0 ∧ 1 ≤ n ∧ n ≤ 120 ∧ 0 ≤ x ∧ x ≤ 5) ∨ (r = -1 ∧ ¬ (1 ≤ n ∧ n ≤ 120 ∧ 0 ≤ x ∧ x ≤ 5))))) args s 0 0 (xA h0) := ⟨_, rfl⟩
  rw [← eQ]
  generalize hHe : ([] : List Loc) = locs at hW ⊢
  obtain ⟨H, eH⟩ : ∃ H, H = s.heap := ⟨_, rfl⟩
  rw [← eH] at hW ⊢
  have hF : xFr (fun k => k = 268 ∨ k = 269 ∨ k = 270 ∨ k = 294 ∨ k = 295 ∨ k = 299) s0 s0 := xFr.rf
  refine x_iload_n hx hb hl 2 rfl dX11_tried_0 rfl ?_
  refine x_iconst hx hb dX11_tried_1 ?_
  refine x_iconst hx hb dX11_tried_2 ?_
  refine x_goi (x_runS (As := [.int (xJ x), .int (xJ 0), .int (xJ 5)]) hx hb hml hown hT hE hW hl.1 cf_X11_in wq1383 wq1382 (c_X11_in l D g T h0 s0 hW.2.1 x rx 0 (by decide) 5 (by decide)) ⟨rfl, rfl, ⟨by decide, by decide⟩, ⟨by decide, by decide⟩⟩ rfl rfl (Nat.le_of_ble_eq_true rfl) dX11_tried_3) hW (fun x1 s2 H locs rx1 hp3 hW => ?_)
  obtain ⟨es2, hp3⟩ := hp3
  subst es2
  have ghp3 := hp3
  refine x_if_ne (tgt := 53) hx hb rx1 dX11_tried_6 (by decide) (fun c4 => ?_) (fun c4 => ?_)
  · skip
    refine x_iconst hx hb dX11_tried_53 ?_
    refine lv_goto (tgt := 58) hx hb dX11_tried_54 (by decide) ?_
    refine lv_istore_n (lv' := [(3, .int (xJ 1)), (0, .ref (h0 + 268)), (1, .int (xJ n)), (2, .int (xJ x))]) hx hb dX11_tried_58 rfl hl (by decide) rfl (fun ls hl => ?_)
    refine x_iload_n hx hb hl 2 rfl dX11_tried_59 rfl ?_
    refine x_iconst hx hb dX11_tried_60 ?_
    refine x_bipush hx hb dX11_tried_61 (by decide) ?_
    refine x_goi (x_runS (As := [.int (xJ n), .int (xJ 1), .int (xJ 120)]) hx hb hml hown hT hE hW hl.1 cf_X11_in wq1383 wq1382 (c_X11_in l D g T h0 s0 hW.2.1 n rn 1 (by decide) 120 (by decide)) ⟨rfl, rfl, ⟨by decide, by decide⟩, ⟨by decide, by decide⟩⟩ rfl rfl (Nat.le_of_ble_eq_true rfl) dX11_tried_63) hW (fun x5 s6 H locs rx5 hp7 hW => ?_)
    obtain ⟨es6, hp7⟩ := hp7
    subst es6
    have ghp7 := hp7
    refine x_if_eq (tgt := 73) hx hb rx5 dX11_tried_66 (by decide) (fun c8 => ?_) (fun c8 => ?_)
    · skip
      refine x_iconst hx hb dX11_tried_73 ?_
      rw [eQ]
      exact x_iret hx hb hr hlk hW (by decide) ⟨hF, by omega⟩ dX11_tried_74
    refine x_iload_n hx hb hl 0 rfl dX11_tried_69 rfl ?_
    refine x_if_ne (tgt := 75) hx hb (by decide) dX11_tried_70 (by decide) (fun c9 => ?_) (fun c9 => False.elim (by omega))
    refine x_aload_n hx hb hl 1 rfl dX11_tried_75 rfl ?_
    refine x_get (j := 0) (v := .ref (h0 + 269)) hx hb hown hT hE hW cls_X11 (Or.inl (by decide)) (so_268 h0 g _) (by decide) rfl wq1185 dX11_tried_76 ?_
    refine x_aload_n hx hb hl 1 rfl dX11_tried_79 rfl ?_
    refine x_get (j := 1) (v := .ref (h0 + 270)) hx hb hown hT hE hW cls_X11 (Or.inl (by decide)) (so_268 h0 g _) (by decide) rfl wq1186 dX11_tried_80 ?_
    refine x_gov (x_runS (As := [.ref (h0 + 269), .ref (h0 + 270)]) hx hb hml hown hT hE hW hl.1 cf_X11_copies wq1647 wq1646 (c_X11_copiesA l D g T h0 s0 hW.2.1 p0 p1 p2 p3 p4) ⟨rfl, rfl, ⟨by decide, by decide⟩, ⟨by decide, by decide⟩⟩ rfl rfl (Nat.le_of_ble_eq_true rfl) dX11_tried_83) hW (fun s11 H locs hp12 hW => ?_)
    obtain ⟨fs11, hp12⟩ := hp12
    have hF13 := hF.call fs11 (fun k h => by omega)
    have q14 : s11 269 34 = 0 := (congrFun (fs11 _ (by omega)) _).trans p0
    have q15 : s11 269 35 = 0 := (congrFun (fs11 _ (by omega)) _).trans p1
    have q16 : s11 269 36 = 0 := (congrFun (fs11 _ (by omega)) _).trans p2
    have q17 : 0 ≤ s11 269 37 ∧ s11 269 37 ≤ 9999 := by rw [fs11 269 (by omega)]; exact p3
    have q18 : 0 ≤ s11 269 38 ∧ s11 269 38 ≤ 65535 := by rw [fs11 269 (by omega)]; exact p4
    have q19 : s11 295 = fun _ => 0 := (fs11 _ (by omega)).trans p5
    have q20 : s11 268 17 = 0 := (congrFun (fs11 _ (by omega)) _).trans p6
    have q21 : s11 273 = fun _ => (-1) := (fs11 _ (by omega)).trans p7
    have ghp12 := hp12.2
    refine x_aload_n hx hb hl 1 rfl dX11_tried_86 rfl ?_
    refine x_iload_n hx hb hl 2 rfl dX11_tried_87 rfl ?_
    refine x_gov (x_runV (As := [.int (xJ n)]) hx hb hml hown hT hE hW hl.1 (Or.inl (by decide)) (so_268 h0 g _) rfl cf_X11_minutesGo wq1539 wq130 wq1537 (c_X11_minutesGo l D g T h0 s11 hW.2.1 n rn q14 q15 q16 q17 q18 q19 q20 q21) ⟨rfl, rfl, ⟨by decide, by decide⟩, ⟨by decide, by decide⟩⟩ rfl rfl (Nat.le_of_ble_eq_true rfl) dX11_tried_88) hW (fun s23 H locs hp24 hW => ?_)
    obtain ⟨fs23, hp24⟩ := hp24
    have hF25 := hF13.call fs23 (fun k h => by omega)
    have q26 : s23 273 = fun _ => (-1) := (fs23 _ (by omega)).trans q21
    have q27 : s23 270 34 = 0 := (congrFun (fs23 _ (by omega)) _).trans hp12.1.1
    have q28 : s23 270 35 = 0 := (congrFun (fs23 _ (by omega)) _).trans hp12.1.2.1
    have q29 : s23 270 36 = 0 := (congrFun (fs23 _ (by omega)) _).trans hp12.1.2.2.1
    have q30 : 0 ≤ s23 270 37 ∧ s23 270 37 ≤ 9999 := by rw [fs23 270 (by omega)]; exact hp12.1.2.2.2.1
    have q31 : 0 ≤ s23 270 38 ∧ s23 270 38 ≤ 65535 := by rw [fs23 270 (by omega)]; exact hp12.1.2.2.2.2.1
    have ghp24 := hp24.2
    refine x_iload_n hx hb hl 3 rfl dX11_tried_91 rfl ?_
    rcases (show (x < 0 ∨ 5 < x) ∨ x = 0 ∨ x = 1 ∨ x = 2 ∨ x = 3 ∨ x = 4 ∨ x = 5 from by omega) with c32 | c32 | c32 | c32 | c32 | c32 | c32
    · exact False.elim (by omega)
    · refine x_tabIn (v := 0) (tgt := 132) hx hb rx c32 dX11_tried_92 (by decide) rfl (by decide) ?_
      refine x_aload_n hx hb hl 1 rfl dX11_tried_132 rfl ?_
      refine x_get (j := 41) (v := .int (xJ (s23 268 41))) hx hb hown hT hE hW cls_X11 (Or.inl (by decide)) (so_268 h0 g _) (by decide) rfl wq1226 dX11_tried_133 ?_
      refine x_rd hW (fun x33 ex33 rx33 => ?_)
      have fx33 : x33 = 0 := by rw [ex33, hp24.1.2.2.2.2.2.1]
      refine lv_istore (lv' := [(4, .int (xJ x33)), (3, .int (xJ 1)), (0, .ref (h0 + 268)), (1, .int (xJ n)), (2, .int (xJ x))]) hx hb dX11_tried_136 hl (by decide) rfl (fun ls hl => ?_)
      refine lv_goto (tgt := 254) hx hb dX11_tried_138 (by decide) ?_
      refine x_aload_n hx hb hl 2 rfl dX11_tried_254 rfl ?_
      refine x_get (j := 1) (v := .ref (h0 + 270)) hx hb hown hT hE hW cls_X11 (Or.inl (by decide)) (so_268 h0 g _) (by decide) rfl wq1186 dX11_tried_255 ?_
      refine x_aload_n hx hb hl 2 rfl dX11_tried_258 rfl ?_
      refine x_get (j := 0) (v := .ref (h0 + 269)) hx hb hown hT hE hW cls_X11 (Or.inl (by decide)) (so_268 h0 g _) (by decide) rfl wq1185 dX11_tried_259 ?_
      refine x_gov (x_runS (As := [.ref (h0 + 270), .ref (h0 + 269)]) hx hb hml hown hT hE hW hl.1 cf_X11_copies wq1647 wq1646 (c_X11_copiesB l D g T h0 s23 hW.2.1 q27 q28 q29 q30 q31) ⟨rfl, rfl, ⟨by decide, by decide⟩, ⟨by decide, by decide⟩⟩ rfl rfl (Nat.le_of_ble_eq_true rfl) dX11_tried_262) hW (fun s35 H locs hp36 hW => ?_)
      obtain ⟨fs35, hp36⟩ := hp36
      have hF37 := hF25.call fs35 (fun k h => by omega)
      have q38 : s35 273 = fun _ => (-1) := (fs35 _ (by omega)).trans q26
      have q39 : s35 270 34 = 0 := (congrFun (fs35 _ (by omega)) _).trans q27
      have q40 : s35 270 35 = 0 := (congrFun (fs35 _ (by omega)) _).trans q28
      have q41 : s35 270 36 = 0 := (congrFun (fs35 _ (by omega)) _).trans q29
      have q42 : 0 ≤ s35 270 37 ∧ s35 270 37 ≤ 9999 := by rw [fs35 270 (by omega)]; exact q30
      have q43 : 0 ≤ s35 270 38 ∧ s35 270 38 ≤ 65535 := by rw [fs35 270 (by omega)]; exact q31
      have q44 : s35 268 41 = 0 := (congrFun (fs35 _ (by omega)) _).trans hp24.1.2.2.2.2.2.1
      have q45 : s35 268 42 = 0 := (congrFun (fs35 _ (by omega)) _).trans hp24.1.2.2.2.2.2.2.1
      have q46 : s35 268 43 = 0 := (congrFun (fs35 _ (by omega)) _).trans hp24.1.2.2.2.2.2.2.2.1
      have q47 : s35 268 44 = 0 := (congrFun (fs35 _ (by omega)) _).trans hp24.1.2.2.2.2.2.2.2.2.1
      have q48 : s35 295 = fun _ => 0 := (fs35 _ (by omega)).trans hp24.1.2.2.2.2.2.2.2.2.2.1
      have q49 : s35 268 17 = 0 := (congrFun (fs35 _ (by omega)) _).trans hp24.1.2.2.2.2.2.2.2.2.2.2.1
      have ghp36 := hp36.2
      refine x_iload hx hb hl 0 rfl dX11_tried_265 ?_
      rw [eQ]
      exact x_iret hx hb hr hlk hW rx33 ⟨hF37, by omega⟩ dX11_tried_267
    · refine x_tabIn (v := 1) (tgt := 141) hx hb rx c32 dX11_tried_92 (by decide) rfl (by decide) ?_
      refine x_aload_n hx hb hl 1 rfl dX11_tried_141 rfl ?_
      refine x_get (j := 42) (v := .int (xJ (s23 268 42))) hx hb hown hT hE hW cls_X11 (Or.inl (by decide)) (so_268 h0 g _) (by decide) rfl wq1227 dX11_tried_142 ?_
      refine x_rd hW (fun x50 ex50 rx50 => ?_)
      have fx50 : x50 = 0 := by rw [ex50, hp24.1.2.2.2.2.2.2.1]
      refine lv_istore (lv' := [(4, .int (xJ x50)), (3, .int (xJ 1)), (0, .ref (h0 + 268)), (1, .int (xJ n)), (2, .int (xJ x))]) hx hb dX11_tried_145 hl (by decide) rfl (fun ls hl => ?_)
      refine lv_goto (tgt := 254) hx hb dX11_tried_147 (by decide) ?_
      refine x_aload_n hx hb hl 2 rfl dX11_tried_254 rfl ?_
      refine x_get (j := 1) (v := .ref (h0 + 270)) hx hb hown hT hE hW cls_X11 (Or.inl (by decide)) (so_268 h0 g _) (by decide) rfl wq1186 dX11_tried_255 ?_
      refine x_aload_n hx hb hl 2 rfl dX11_tried_258 rfl ?_
      refine x_get (j := 0) (v := .ref (h0 + 269)) hx hb hown hT hE hW cls_X11 (Or.inl (by decide)) (so_268 h0 g _) (by decide) rfl wq1185 dX11_tried_259 ?_
      refine x_gov (x_runS (As := [.ref (h0 + 270), .ref (h0 + 269)]) hx hb hml hown hT hE hW hl.1 cf_X11_copies wq1647 wq1646 (c_X11_copiesB l D g T h0 s23 hW.2.1 q27 q28 q29 q30 q31) ⟨rfl, rfl, ⟨by decide, by decide⟩, ⟨by decide, by decide⟩⟩ rfl rfl (Nat.le_of_ble_eq_true rfl) dX11_tried_262) hW (fun s52 H locs hp53 hW => ?_)
      obtain ⟨fs52, hp53⟩ := hp53
      have hF54 := hF25.call fs52 (fun k h => by omega)
      have q55 : s52 273 = fun _ => (-1) := (fs52 _ (by omega)).trans q26
      have q56 : s52 270 34 = 0 := (congrFun (fs52 _ (by omega)) _).trans q27
      have q57 : s52 270 35 = 0 := (congrFun (fs52 _ (by omega)) _).trans q28
      have q58 : s52 270 36 = 0 := (congrFun (fs52 _ (by omega)) _).trans q29
      have q59 : 0 ≤ s52 270 37 ∧ s52 270 37 ≤ 9999 := by rw [fs52 270 (by omega)]; exact q30
      have q60 : 0 ≤ s52 270 38 ∧ s52 270 38 ≤ 65535 := by rw [fs52 270 (by omega)]; exact q31
      have q61 : s52 268 41 = 0 := (congrFun (fs52 _ (by omega)) _).trans hp24.1.2.2.2.2.2.1
      have q62 : s52 268 42 = 0 := (congrFun (fs52 _ (by omega)) _).trans hp24.1.2.2.2.2.2.2.1
      have q63 : s52 268 43 = 0 := (congrFun (fs52 _ (by omega)) _).trans hp24.1.2.2.2.2.2.2.2.1
      have q64 : s52 268 44 = 0 := (congrFun (fs52 _ (by omega)) _).trans hp24.1.2.2.2.2.2.2.2.2.1
      have q65 : s52 295 = fun _ => 0 := (fs52 _ (by omega)).trans hp24.1.2.2.2.2.2.2.2.2.2.1
      have q66 : s52 268 17 = 0 := (congrFun (fs52 _ (by omega)) _).trans hp24.1.2.2.2.2.2.2.2.2.2.2.1
      have ghp53 := hp53.2
      refine x_iload hx hb hl 0 rfl dX11_tried_265 ?_
      rw [eQ]
      exact x_iret hx hb hr hlk hW rx50 ⟨hF54, by omega⟩ dX11_tried_267
    · refine x_tabIn (v := 2) (tgt := 150) hx hb rx c32 dX11_tried_92 (by decide) rfl (by decide) ?_
      refine x_aload_n hx hb hl 1 rfl dX11_tried_150 rfl ?_
      refine x_get (j := 0) (v := .ref (h0 + 269)) hx hb hown hT hE hW cls_X11 (Or.inl (by decide)) (so_268 h0 g _) (by decide) rfl wq1185 dX11_tried_151 ?_
      refine x_bipush hx hb dX11_tried_154 (by decide) ?_
      refine x_iald hx hb hE hW (Or.inl (by decide)) (sa_269 h0 g _) ⟨by decide, by decide⟩ (by decide) dX11_tried_156 ?_
      refine x_rd hW (fun x67 ex67 rx67 => ?_)
      have fx67 : x67 = 0 := by rw [ex67, hp24.1.2.2.1]
      refine x_aload_n hx hb hl 1 rfl dX11_tried_157 rfl ?_
      refine x_get (j := 0) (v := .ref (h0 + 269)) hx hb hown hT hE hW cls_X11 (Or.inl (by decide)) (so_268 h0 g _) (by decide) rfl wq1185 dX11_tried_158 ?_
      refine x_bipush hx hb dX11_tried_161 (by decide) ?_
      refine x_iald hx hb hE hW (Or.inl (by decide)) (sa_269 h0 g _) ⟨by decide, by decide⟩ (by decide) dX11_tried_163 ?_
      refine x_rd hW (fun x68 ex68 rx68 => ?_)
      have fx68 : x68 = 0 := by rw [ex68, hp24.1.2.1]
      refine x_iand0 hx hb (by omega) dX11_tried_164 ?_
      refine x_goi (x_runS (As := [.int (xJ 0)]) hx hb hml hown hT hE hW hl.1 cf_X11_bits wq1650 wq1649 (c_X11_bits l D g T h0 s23 hW.2.1 0 (by decide) (by omega)) ⟨rfl, rfl, ⟨by decide, by decide⟩, ⟨by decide, by decide⟩⟩ rfl rfl (Nat.le_of_ble_eq_true rfl) dX11_tried_165) hW (fun x69 s70 H locs rx69 hp71 hW => ?_)
      obtain ⟨es70, hp71⟩ := hp71
      subst es70
      have ghp71 := hp71
      refine lv_istore (lv' := [(4, .int (xJ x69)), (3, .int (xJ 1)), (0, .ref (h0 + 268)), (1, .int (xJ n)), (2, .int (xJ x))]) hx hb dX11_tried_168 hl (by decide) rfl (fun ls hl => ?_)
      refine lv_goto (tgt := 254) hx hb dX11_tried_170 (by decide) ?_
      refine x_aload_n hx hb hl 2 rfl dX11_tried_254 rfl ?_
      refine x_get (j := 1) (v := .ref (h0 + 270)) hx hb hown hT hE hW cls_X11 (Or.inl (by decide)) (so_268 h0 g _) (by decide) rfl wq1186 dX11_tried_255 ?_
      refine x_aload_n hx hb hl 2 rfl dX11_tried_258 rfl ?_
      refine x_get (j := 0) (v := .ref (h0 + 269)) hx hb hown hT hE hW cls_X11 (Or.inl (by decide)) (so_268 h0 g _) (by decide) rfl wq1185 dX11_tried_259 ?_
      refine x_gov (x_runS (As := [.ref (h0 + 270), .ref (h0 + 269)]) hx hb hml hown hT hE hW hl.1 cf_X11_copies wq1647 wq1646 (c_X11_copiesB l D g T h0 s23 hW.2.1 q27 q28 q29 q30 q31) ⟨rfl, rfl, ⟨by decide, by decide⟩, ⟨by decide, by decide⟩⟩ rfl rfl (Nat.le_of_ble_eq_true rfl) dX11_tried_262) hW (fun s73 H locs hp74 hW => ?_)
      obtain ⟨fs73, hp74⟩ := hp74
      have hF75 := hF25.call fs73 (fun k h => by omega)
      have q76 : s73 273 = fun _ => (-1) := (fs73 _ (by omega)).trans q26
      have q77 : s73 270 34 = 0 := (congrFun (fs73 _ (by omega)) _).trans q27
      have q78 : s73 270 35 = 0 := (congrFun (fs73 _ (by omega)) _).trans q28
      have q79 : s73 270 36 = 0 := (congrFun (fs73 _ (by omega)) _).trans q29
      have q80 : 0 ≤ s73 270 37 ∧ s73 270 37 ≤ 9999 := by rw [fs73 270 (by omega)]; exact q30
      have q81 : 0 ≤ s73 270 38 ∧ s73 270 38 ≤ 65535 := by rw [fs73 270 (by omega)]; exact q31
      have q82 : s73 268 41 = 0 := (congrFun (fs73 _ (by omega)) _).trans hp24.1.2.2.2.2.2.1
      have q83 : s73 268 42 = 0 := (congrFun (fs73 _ (by omega)) _).trans hp24.1.2.2.2.2.2.2.1
      have q84 : s73 268 43 = 0 := (congrFun (fs73 _ (by omega)) _).trans hp24.1.2.2.2.2.2.2.2.1
      have q85 : s73 268 44 = 0 := (congrFun (fs73 _ (by omega)) _).trans hp24.1.2.2.2.2.2.2.2.2.1
      have q86 : s73 295 = fun _ => 0 := (fs73 _ (by omega)).trans hp24.1.2.2.2.2.2.2.2.2.2.1
      have q87 : s73 268 17 = 0 := (congrFun (fs73 _ (by omega)) _).trans hp24.1.2.2.2.2.2.2.2.2.2.2.1
      have ghp74 := hp74.2
      refine x_iload hx hb hl 0 rfl dX11_tried_265 ?_
      rw [eQ]
      exact x_iret hx hb hr hlk hW rx69 ⟨hF75, by omega⟩ dX11_tried_267
    · refine x_tabIn (v := 3) (tgt := 173) hx hb rx c32 dX11_tried_92 (by decide) rfl (by decide) ?_
      refine x_aload_n hx hb hl 1 rfl dX11_tried_173 rfl ?_
      refine x_get (j := 43) (v := .int (xJ (s23 268 43))) hx hb hown hT hE hW cls_X11 (Or.inl (by decide)) (so_268 h0 g _) (by decide) rfl wq1228 dX11_tried_174 ?_
      refine x_rd hW (fun x88 ex88 rx88 => ?_)
      have fx88 : x88 = 0 := by rw [ex88, hp24.1.2.2.2.2.2.2.2.1]
      refine lv_istore (lv' := [(4, .int (xJ x88)), (3, .int (xJ 1)), (0, .ref (h0 + 268)), (1, .int (xJ n)), (2, .int (xJ x))]) hx hb dX11_tried_177 hl (by decide) rfl (fun ls hl => ?_)
      refine lv_goto (tgt := 254) hx hb dX11_tried_179 (by decide) ?_
      refine x_aload_n hx hb hl 2 rfl dX11_tried_254 rfl ?_
      refine x_get (j := 1) (v := .ref (h0 + 270)) hx hb hown hT hE hW cls_X11 (Or.inl (by decide)) (so_268 h0 g _) (by decide) rfl wq1186 dX11_tried_255 ?_
      refine x_aload_n hx hb hl 2 rfl dX11_tried_258 rfl ?_
      refine x_get (j := 0) (v := .ref (h0 + 269)) hx hb hown hT hE hW cls_X11 (Or.inl (by decide)) (so_268 h0 g _) (by decide) rfl wq1185 dX11_tried_259 ?_
      refine x_gov (x_runS (As := [.ref (h0 + 270), .ref (h0 + 269)]) hx hb hml hown hT hE hW hl.1 cf_X11_copies wq1647 wq1646 (c_X11_copiesB l D g T h0 s23 hW.2.1 q27 q28 q29 q30 q31) ⟨rfl, rfl, ⟨by decide, by decide⟩, ⟨by decide, by decide⟩⟩ rfl rfl (Nat.le_of_ble_eq_true rfl) dX11_tried_262) hW (fun s90 H locs hp91 hW => ?_)
      obtain ⟨fs90, hp91⟩ := hp91
      have hF92 := hF25.call fs90 (fun k h => by omega)
      have q93 : s90 273 = fun _ => (-1) := (fs90 _ (by omega)).trans q26
      have q94 : s90 270 34 = 0 := (congrFun (fs90 _ (by omega)) _).trans q27
      have q95 : s90 270 35 = 0 := (congrFun (fs90 _ (by omega)) _).trans q28
      have q96 : s90 270 36 = 0 := (congrFun (fs90 _ (by omega)) _).trans q29
      have q97 : 0 ≤ s90 270 37 ∧ s90 270 37 ≤ 9999 := by rw [fs90 270 (by omega)]; exact q30
      have q98 : 0 ≤ s90 270 38 ∧ s90 270 38 ≤ 65535 := by rw [fs90 270 (by omega)]; exact q31
      have q99 : s90 268 41 = 0 := (congrFun (fs90 _ (by omega)) _).trans hp24.1.2.2.2.2.2.1
      have q100 : s90 268 42 = 0 := (congrFun (fs90 _ (by omega)) _).trans hp24.1.2.2.2.2.2.2.1
      have q101 : s90 268 43 = 0 := (congrFun (fs90 _ (by omega)) _).trans hp24.1.2.2.2.2.2.2.2.1
      have q102 : s90 268 44 = 0 := (congrFun (fs90 _ (by omega)) _).trans hp24.1.2.2.2.2.2.2.2.2.1
      have q103 : s90 295 = fun _ => 0 := (fs90 _ (by omega)).trans hp24.1.2.2.2.2.2.2.2.2.2.1
      have q104 : s90 268 17 = 0 := (congrFun (fs90 _ (by omega)) _).trans hp24.1.2.2.2.2.2.2.2.2.2.2.1
      have ghp91 := hp91.2
      refine x_iload hx hb hl 0 rfl dX11_tried_265 ?_
      rw [eQ]
      exact x_iret hx hb hr hlk hW rx88 ⟨hF92, by omega⟩ dX11_tried_267
    · refine x_tabIn (v := 4) (tgt := 182) hx hb rx c32 dX11_tried_92 (by decide) rfl (by decide) ?_
      refine x_aload_n hx hb hl 1 rfl dX11_tried_182 rfl ?_
      refine x_get (j := 44) (v := .int (xJ (s23 268 44))) hx hb hown hT hE hW cls_X11 (Or.inl (by decide)) (so_268 h0 g _) (by decide) rfl wq1229 dX11_tried_183 ?_
      refine x_rd hW (fun x105 ex105 rx105 => ?_)
      have fx105 : x105 = 0 := by rw [ex105, hp24.1.2.2.2.2.2.2.2.2.1]
      refine lv_istore (lv' := [(4, .int (xJ x105)), (3, .int (xJ 1)), (0, .ref (h0 + 268)), (1, .int (xJ n)), (2, .int (xJ x))]) hx hb dX11_tried_186 hl (by decide) rfl (fun ls hl => ?_)
      refine lv_goto (tgt := 254) hx hb dX11_tried_188 (by decide) ?_
      refine x_aload_n hx hb hl 2 rfl dX11_tried_254 rfl ?_
      refine x_get (j := 1) (v := .ref (h0 + 270)) hx hb hown hT hE hW cls_X11 (Or.inl (by decide)) (so_268 h0 g _) (by decide) rfl wq1186 dX11_tried_255 ?_
      refine x_aload_n hx hb hl 2 rfl dX11_tried_258 rfl ?_
      refine x_get (j := 0) (v := .ref (h0 + 269)) hx hb hown hT hE hW cls_X11 (Or.inl (by decide)) (so_268 h0 g _) (by decide) rfl wq1185 dX11_tried_259 ?_
      refine x_gov (x_runS (As := [.ref (h0 + 270), .ref (h0 + 269)]) hx hb hml hown hT hE hW hl.1 cf_X11_copies wq1647 wq1646 (c_X11_copiesB l D g T h0 s23 hW.2.1 q27 q28 q29 q30 q31) ⟨rfl, rfl, ⟨by decide, by decide⟩, ⟨by decide, by decide⟩⟩ rfl rfl (Nat.le_of_ble_eq_true rfl) dX11_tried_262) hW (fun s107 H locs hp108 hW => ?_)
      obtain ⟨fs107, hp108⟩ := hp108
      have hF109 := hF25.call fs107 (fun k h => by omega)
      have q110 : s107 273 = fun _ => (-1) := (fs107 _ (by omega)).trans q26
      have q111 : s107 270 34 = 0 := (congrFun (fs107 _ (by omega)) _).trans q27
      have q112 : s107 270 35 = 0 := (congrFun (fs107 _ (by omega)) _).trans q28
      have q113 : s107 270 36 = 0 := (congrFun (fs107 _ (by omega)) _).trans q29
      have q114 : 0 ≤ s107 270 37 ∧ s107 270 37 ≤ 9999 := by rw [fs107 270 (by omega)]; exact q30
      have q115 : 0 ≤ s107 270 38 ∧ s107 270 38 ≤ 65535 := by rw [fs107 270 (by omega)]; exact q31
      have q116 : s107 268 41 = 0 := (congrFun (fs107 _ (by omega)) _).trans hp24.1.2.2.2.2.2.1
      have q117 : s107 268 42 = 0 := (congrFun (fs107 _ (by omega)) _).trans hp24.1.2.2.2.2.2.2.1
      have q118 : s107 268 43 = 0 := (congrFun (fs107 _ (by omega)) _).trans hp24.1.2.2.2.2.2.2.2.1
      have q119 : s107 268 44 = 0 := (congrFun (fs107 _ (by omega)) _).trans hp24.1.2.2.2.2.2.2.2.2.1
      have q120 : s107 295 = fun _ => 0 := (fs107 _ (by omega)).trans hp24.1.2.2.2.2.2.2.2.2.2.1
      have q121 : s107 268 17 = 0 := (congrFun (fs107 _ (by omega)) _).trans hp24.1.2.2.2.2.2.2.2.2.2.2.1
      have ghp108 := hp108.2
      refine x_iload hx hb hl 0 rfl dX11_tried_265 ?_
      rw [eQ]
      exact x_iret hx hb hr hlk hW rx105 ⟨hF109, by omega⟩ dX11_tried_267
    · refine x_tabIn (v := 5) (tgt := 191) hx hb rx c32 dX11_tried_92 (by decide) rfl (by decide) ?_
      refine x_aload_n hx hb hl 1 rfl dX11_tried_191 rfl ?_
      refine x_goi (x_runV (As := []) hx hb hml hown hT hE hW hl.1 (Or.inl (by decide)) (so_268 h0 g _) rfl cf_X11_freeMany wq1654 wq152 wq1652 (c_X11_freeMany l D g T h0 s23 hW.2.1 hp24.1.2.1) ⟨rfl, rfl, ⟨by decide, by decide⟩, ⟨by decide, by decide⟩⟩ rfl rfl (Nat.le_of_ble_eq_true rfl) dX11_tried_192) hW (fun x122 s123 H locs rx122 hp124 hW => ?_)
      obtain ⟨es123, hp124⟩ := hp124
      subst es123
      have ghp124 := hp124
      refine lv_istore (lv' := [(4, .int (xJ x122)), (3, .int (xJ 1)), (0, .ref (h0 + 268)), (1, .int (xJ n)), (2, .int (xJ x))]) hx hb dX11_tried_195 hl (by decide) rfl (fun ls hl => ?_)
      refine lv_goto (tgt := 254) hx hb dX11_tried_197 (by decide) ?_
      refine x_aload_n hx hb hl 2 rfl dX11_tried_254 rfl ?_
      refine x_get (j := 1) (v := .ref (h0 + 270)) hx hb hown hT hE hW cls_X11 (Or.inl (by decide)) (so_268 h0 g _) (by decide) rfl wq1186 dX11_tried_255 ?_
      refine x_aload_n hx hb hl 2 rfl dX11_tried_258 rfl ?_
      refine x_get (j := 0) (v := .ref (h0 + 269)) hx hb hown hT hE hW cls_X11 (Or.inl (by decide)) (so_268 h0 g _) (by decide) rfl wq1185 dX11_tried_259 ?_
      refine x_gov (x_runS (As := [.ref (h0 + 270), .ref (h0 + 269)]) hx hb hml hown hT hE hW hl.1 cf_X11_copies wq1647 wq1646 (c_X11_copiesB l D g T h0 s23 hW.2.1 q27 q28 q29 q30 q31) ⟨rfl, rfl, ⟨by decide, by decide⟩, ⟨by decide, by decide⟩⟩ rfl rfl (Nat.le_of_ble_eq_true rfl) dX11_tried_262) hW (fun s126 H locs hp127 hW => ?_)
      obtain ⟨fs126, hp127⟩ := hp127
      have hF128 := hF25.call fs126 (fun k h => by omega)
      have q129 : s126 273 = fun _ => (-1) := (fs126 _ (by omega)).trans q26
      have q130 : s126 270 34 = 0 := (congrFun (fs126 _ (by omega)) _).trans q27
      have q131 : s126 270 35 = 0 := (congrFun (fs126 _ (by omega)) _).trans q28
      have q132 : s126 270 36 = 0 := (congrFun (fs126 _ (by omega)) _).trans q29
      have q133 : 0 ≤ s126 270 37 ∧ s126 270 37 ≤ 9999 := by rw [fs126 270 (by omega)]; exact q30
      have q134 : 0 ≤ s126 270 38 ∧ s126 270 38 ≤ 65535 := by rw [fs126 270 (by omega)]; exact q31
      have q135 : s126 268 41 = 0 := (congrFun (fs126 _ (by omega)) _).trans hp24.1.2.2.2.2.2.1
      have q136 : s126 268 42 = 0 := (congrFun (fs126 _ (by omega)) _).trans hp24.1.2.2.2.2.2.2.1
      have q137 : s126 268 43 = 0 := (congrFun (fs126 _ (by omega)) _).trans hp24.1.2.2.2.2.2.2.2.1
      have q138 : s126 268 44 = 0 := (congrFun (fs126 _ (by omega)) _).trans hp24.1.2.2.2.2.2.2.2.2.1
      have q139 : s126 295 = fun _ => 0 := (fs126 _ (by omega)).trans hp24.1.2.2.2.2.2.2.2.2.2.1
      have q140 : s126 268 17 = 0 := (congrFun (fs126 _ (by omega)) _).trans hp24.1.2.2.2.2.2.2.2.2.2.2.1
      have ghp127 := hp127.2
      refine x_iload hx hb hl 0 rfl dX11_tried_265 ?_
      rw [eQ]
      exact x_iret hx hb hr hlk hW rx122 ⟨hF128, by omega⟩ dX11_tried_267
  refine x_iload_n hx hb hl 2 rfl dX11_tried_9 rfl ?_
  refine x_bipush hx hb dX11_tried_10 (by decide) ?_
  refine x_bipush hx hb dX11_tried_12 (by decide) ?_
  refine x_goi (x_runS (As := [.int (xJ x), .int (xJ 10), .int (xJ 29)]) hx hb hml hown hT hE hW hl.1 cf_X11_in wq1383 wq1382 (c_X11_in l D g T h0 s0 hW.2.1 x rx 10 (by decide) 29 (by decide)) ⟨rfl, rfl, ⟨by decide, by decide⟩, ⟨by decide, by decide⟩⟩ rfl rfl (Nat.le_of_ble_eq_true rfl) dX11_tried_14) hW (fun x141 s142 H locs rx141 hp143 hW => ?_)
  obtain ⟨es142, hp143⟩ := hp143
  subst es142
  have ghp143 := hp143
  refine x_if_eq (tgt := 31) hx hb rx141 dX11_tried_17 (by decide) (fun c144 => ?_) (fun c144 => ?_)
  · skip
    refine x_iload_n hx hb hl 2 rfl dX11_tried_31 rfl ?_
    refine x_bipush hx hb dX11_tried_32 (by decide) ?_
    refine x_bipush hx hb dX11_tried_34 (by decide) ?_
    refine x_goi (x_runS (As := [.int (xJ x), .int (xJ 30), .int (xJ 31)]) hx hb hml hown hT hE hW hl.1 cf_X11_in wq1383 wq1382 (c_X11_in l D g T h0 s0 hW.2.1 x rx 30 (by decide) 31 (by decide)) ⟨rfl, rfl, ⟨by decide, by decide⟩, ⟨by decide, by decide⟩⟩ rfl rfl (Nat.le_of_ble_eq_true rfl) dX11_tried_36) hW (fun x145 s146 H locs rx145 hp147 hW => ?_)
    obtain ⟨es146, hp147⟩ := hp147
    subst es146
    have ghp147 := hp147
    refine x_if_eq (tgt := 57) hx hb rx145 dX11_tried_39 (by decide) (fun c148 => ?_) (fun c148 => ?_)
    · skip
      refine x_iconst hx hb dX11_tried_57 ?_
      refine lv_istore_n (lv' := [(3, .int (xJ 0)), (0, .ref (h0 + 268)), (1, .int (xJ n)), (2, .int (xJ x))]) hx hb dX11_tried_58 rfl hl (by decide) rfl (fun ls hl => ?_)
      refine x_iload_n hx hb hl 2 rfl dX11_tried_59 rfl ?_
      refine x_iconst hx hb dX11_tried_60 ?_
      refine x_bipush hx hb dX11_tried_61 (by decide) ?_
      refine x_goi (x_runS (As := [.int (xJ n), .int (xJ 1), .int (xJ 120)]) hx hb hml hown hT hE hW hl.1 cf_X11_in wq1383 wq1382 (c_X11_in l D g T h0 s0 hW.2.1 n rn 1 (by decide) 120 (by decide)) ⟨rfl, rfl, ⟨by decide, by decide⟩, ⟨by decide, by decide⟩⟩ rfl rfl (Nat.le_of_ble_eq_true rfl) dX11_tried_63) hW (fun x149 s150 H locs rx149 hp151 hW => ?_)
      obtain ⟨es150, hp151⟩ := hp151
      subst es150
      have ghp151 := hp151
      refine x_if_eq (tgt := 73) hx hb rx149 dX11_tried_66 (by decide) (fun c152 => ?_) (fun c152 => ?_)
      · skip
        refine x_iconst hx hb dX11_tried_73 ?_
        rw [eQ]
        exact x_iret hx hb hr hlk hW (by decide) ⟨hF, by omega⟩ dX11_tried_74
      refine x_iload_n hx hb hl 0 rfl dX11_tried_69 rfl ?_
      refine x_if_ne (tgt := 75) hx hb (by decide) dX11_tried_70 (by decide) (fun c153 => False.elim (by omega)) (fun c153 => ?_)
      refine x_iconst hx hb dX11_tried_73 ?_
      rw [eQ]
      exact x_iret hx hb hr hlk hW (by decide) ⟨hF, by omega⟩ dX11_tried_74
    refine x_aload_n hx hb hl 0 rfl dX11_tried_42 rfl ?_
    refine x_iload_n hx hb hl 2 rfl dX11_tried_43 rfl ?_
    refine x_bipush hx hb dX11_tried_44 (by decide) ?_
    refine x_isub hx hb dX11_tried_46 ?_
    refine x_goi (x_runV (As := [.int (xJ (x - 30))]) hx hb hml hown hT hE hW hl.1 (Or.inl (by decide)) (so_268 h0 g _) rfl cf_X11_isJudge wq1409 wq109 wq1407 (c_X11_isJudge l D g T h0 s0 hW.2.1 (x - 30) (by omega) p0) ⟨rfl, rfl, ⟨by decide, by decide⟩, ⟨by decide, by decide⟩⟩ rfl rfl (Nat.le_of_ble_eq_true rfl) dX11_tried_47) hW (fun x154 s155 H locs rx154 hp156 hW => ?_)
    obtain ⟨es155, hp156⟩ := hp156
    subst es155
    have ghp156 := hp156
    refine x_if_eq (tgt := 57) hx hb rx154 dX11_tried_50 (by decide) (fun c157 => ?_) (fun c157 => False.elim (by omega))
    refine x_iconst hx hb dX11_tried_57 ?_
    refine lv_istore_n (lv' := [(3, .int (xJ 0)), (0, .ref (h0 + 268)), (1, .int (xJ n)), (2, .int (xJ x))]) hx hb dX11_tried_58 rfl hl (by decide) rfl (fun ls hl => ?_)
    refine x_iload_n hx hb hl 2 rfl dX11_tried_59 rfl ?_
    refine x_iconst hx hb dX11_tried_60 ?_
    refine x_bipush hx hb dX11_tried_61 (by decide) ?_
    refine x_goi (x_runS (As := [.int (xJ n), .int (xJ 1), .int (xJ 120)]) hx hb hml hown hT hE hW hl.1 cf_X11_in wq1383 wq1382 (c_X11_in l D g T h0 s0 hW.2.1 n rn 1 (by decide) 120 (by decide)) ⟨rfl, rfl, ⟨by decide, by decide⟩, ⟨by decide, by decide⟩⟩ rfl rfl (Nat.le_of_ble_eq_true rfl) dX11_tried_63) hW (fun x158 s159 H locs rx158 hp160 hW => ?_)
    obtain ⟨es159, hp160⟩ := hp160
    subst es159
    have ghp160 := hp160
    refine x_if_eq (tgt := 73) hx hb rx158 dX11_tried_66 (by decide) (fun c161 => ?_) (fun c161 => ?_)
    · skip
      refine x_iconst hx hb dX11_tried_73 ?_
      rw [eQ]
      exact x_iret hx hb hr hlk hW (by decide) ⟨hF, by omega⟩ dX11_tried_74
    refine x_iload_n hx hb hl 0 rfl dX11_tried_69 rfl ?_
    refine x_if_ne (tgt := 75) hx hb (by decide) dX11_tried_70 (by decide) (fun c162 => False.elim (by omega)) (fun c162 => ?_)
    refine x_iconst hx hb dX11_tried_73 ?_
    rw [eQ]
    exact x_iret hx hb hr hlk hW (by decide) ⟨hF, by omega⟩ dX11_tried_74
  refine x_aload_n hx hb hl 0 rfl dX11_tried_20 rfl ?_
  refine x_iload_n hx hb hl 2 rfl dX11_tried_21 rfl ?_
  refine x_bipush hx hb dX11_tried_22 (by decide) ?_
  refine x_irem hx hb rx (by decide) (by omega) (by decide) dX11_tried_24 ?_
  refine x_goi (x_runV (As := [.int (xJ (x % 10))]) hx hb hml hown hT hE hW hl.1 (Or.inl (by decide)) (so_268 h0 g _) rfl cf_X11_isFelon wq1423 wq111 wq1421 (c_X11_isFelon l D g T h0 s0 hW.2.1 (x % 10) (by omega) p1) ⟨rfl, rfl, ⟨by decide, by decide⟩, ⟨by decide, by decide⟩⟩ rfl rfl (Nat.le_of_ble_eq_true rfl) dX11_tried_25) hW (fun x163 s164 H locs rx163 hp165 hW => ?_)
  obtain ⟨es164, hp165⟩ := hp165
  subst es164
  have ghp165 := hp165
  refine x_if_ne (tgt := 53) hx hb rx163 dX11_tried_28 (by decide) (fun c166 => False.elim (by omega)) (fun c166 => ?_)
  refine x_iload_n hx hb hl 2 rfl dX11_tried_31 rfl ?_
  refine x_bipush hx hb dX11_tried_32 (by decide) ?_
  refine x_bipush hx hb dX11_tried_34 (by decide) ?_
  refine x_goi (x_runS (As := [.int (xJ x), .int (xJ 30), .int (xJ 31)]) hx hb hml hown hT hE hW hl.1 cf_X11_in wq1383 wq1382 (c_X11_in l D g T h0 s0 hW.2.1 x rx 30 (by decide) 31 (by decide)) ⟨rfl, rfl, ⟨by decide, by decide⟩, ⟨by decide, by decide⟩⟩ rfl rfl (Nat.le_of_ble_eq_true rfl) dX11_tried_36) hW (fun x167 s168 H locs rx167 hp169 hW => ?_)
  obtain ⟨es168, hp169⟩ := hp169
  subst es168
  have ghp169 := hp169
  refine x_if_eq (tgt := 57) hx hb rx167 dX11_tried_39 (by decide) (fun c170 => ?_) (fun c170 => ?_)
  · skip
    refine x_iconst hx hb dX11_tried_57 ?_
    refine lv_istore_n (lv' := [(3, .int (xJ 0)), (0, .ref (h0 + 268)), (1, .int (xJ n)), (2, .int (xJ x))]) hx hb dX11_tried_58 rfl hl (by decide) rfl (fun ls hl => ?_)
    refine x_iload_n hx hb hl 2 rfl dX11_tried_59 rfl ?_
    refine x_iconst hx hb dX11_tried_60 ?_
    refine x_bipush hx hb dX11_tried_61 (by decide) ?_
    refine x_goi (x_runS (As := [.int (xJ n), .int (xJ 1), .int (xJ 120)]) hx hb hml hown hT hE hW hl.1 cf_X11_in wq1383 wq1382 (c_X11_in l D g T h0 s0 hW.2.1 n rn 1 (by decide) 120 (by decide)) ⟨rfl, rfl, ⟨by decide, by decide⟩, ⟨by decide, by decide⟩⟩ rfl rfl (Nat.le_of_ble_eq_true rfl) dX11_tried_63) hW (fun x171 s172 H locs rx171 hp173 hW => ?_)
    obtain ⟨es172, hp173⟩ := hp173
    subst es172
    have ghp173 := hp173
    refine x_if_eq (tgt := 73) hx hb rx171 dX11_tried_66 (by decide) (fun c174 => ?_) (fun c174 => ?_)
    · skip
      refine x_iconst hx hb dX11_tried_73 ?_
      rw [eQ]
      exact x_iret hx hb hr hlk hW (by decide) ⟨hF, by omega⟩ dX11_tried_74
    refine x_iload_n hx hb hl 0 rfl dX11_tried_69 rfl ?_
    refine x_if_ne (tgt := 75) hx hb (by decide) dX11_tried_70 (by decide) (fun c175 => False.elim (by omega)) (fun c175 => ?_)
    refine x_iconst hx hb dX11_tried_73 ?_
    rw [eQ]
    exact x_iret hx hb hr hlk hW (by decide) ⟨hF, by omega⟩ dX11_tried_74
  refine x_aload_n hx hb hl 0 rfl dX11_tried_42 rfl ?_
  refine x_iload_n hx hb hl 2 rfl dX11_tried_43 rfl ?_
  refine x_bipush hx hb dX11_tried_44 (by decide) ?_
  refine x_isub hx hb dX11_tried_46 ?_
  refine x_goi (x_runV (As := [.int (xJ (x - 30))]) hx hb hml hown hT hE hW hl.1 (Or.inl (by decide)) (so_268 h0 g _) rfl cf_X11_isJudge wq1409 wq109 wq1407 (c_X11_isJudge l D g T h0 s0 hW.2.1 (x - 30) (by omega) p0) ⟨rfl, rfl, ⟨by decide, by decide⟩, ⟨by decide, by decide⟩⟩ rfl rfl (Nat.le_of_ble_eq_true rfl) dX11_tried_47) hW (fun x176 s177 H locs rx176 hp178 hW => ?_)
  obtain ⟨es177, hp178⟩ := hp178
  subst es177
  have ghp178 := hp178
  refine x_if_eq (tgt := 57) hx hb rx176 dX11_tried_50 (by decide) (fun c179 => ?_) (fun c179 => False.elim (by omega))
  refine x_iconst hx hb dX11_tried_57 ?_
  refine lv_istore_n (lv' := [(3, .int (xJ 0)), (0, .ref (h0 + 268)), (1, .int (xJ n)), (2, .int (xJ x))]) hx hb dX11_tried_58 rfl hl (by decide) rfl (fun ls hl => ?_)
  refine x_iload_n hx hb hl 2 rfl dX11_tried_59 rfl ?_
  refine x_iconst hx hb dX11_tried_60 ?_
  refine x_bipush hx hb dX11_tried_61 (by decide) ?_
  refine x_goi (x_runS (As := [.int (xJ n), .int (xJ 1), .int (xJ 120)]) hx hb hml hown hT hE hW hl.1 cf_X11_in wq1383 wq1382 (c_X11_in l D g T h0 s0 hW.2.1 n rn 1 (by decide) 120 (by decide)) ⟨rfl, rfl, ⟨by decide, by decide⟩, ⟨by decide, by decide⟩⟩ rfl rfl (Nat.le_of_ble_eq_true rfl) dX11_tried_63) hW (fun x180 s181 H locs rx180 hp182 hW => ?_)
  obtain ⟨es181, hp182⟩ := hp182
  subst es181
  have ghp182 := hp182
  refine x_if_eq (tgt := 73) hx hb rx180 dX11_tried_66 (by decide) (fun c183 => ?_) (fun c183 => ?_)
  · skip
    refine x_iconst hx hb dX11_tried_73 ?_
    rw [eQ]
    exact x_iret hx hb hr hlk hW (by decide) ⟨hF, by omega⟩ dX11_tried_74
  refine x_iload_n hx hb hl 0 rfl dX11_tried_69 rfl ?_
  refine x_if_ne (tgt := 75) hx hb (by decide) dX11_tried_70 (by decide) (fun c184 => False.elim (by omega)) (fun c184 => ?_)
  refine x_iconst hx hb dX11_tried_73 ?_
  rw [eQ]
  exact x_iret hx hb hr hlk hW (by decide) ⟨hF, by omega⟩ dX11_tried_74
set_option maxHeartbeats 4000000 in
set_option maxRecDepth 100000 in
theorem c_X11_felonIs (l : Launch) (D : va_G) (g : xG) (T : Nat × Nat × Nat) (h0 : Nat) (s0 : xS) (hσ : xRR s0) (f : Int) (rf : xR f) (x : Int) (rx : xR x) (p0 : s0 269 35 = 0) : Met l yX11_felonIs (xws yX11_felonIs cX11_felonIs 3 (some .int)) { frames := 2, cells := 0, slots := 0, locals := 42 } (xP [.ref (h0 + 268), .int (xJ f), .int (xJ x)] D g T h0 s0) (xQi D g h0 (fun r τ => s0 = τ ∧ (r = -1))) 0 0 (xA h0) := by
  refine x_met hσ (by decide) (Nat.le_of_ble_eq_true rfl) ?_
  intro p e s m args below meth c hx hb hr hml hown hT hlk hnm hE hW ls hl
  have hl : lv_has ls 3 [(0, .ref (h0 + 268)), (1, .int (xJ f)), (2, .int (xJ x))] := hl
  obtain ⟨Q, eQ⟩ : ∃ Q, Q = MQ below (xQi D g h0 (fun r τ => s0 = τ ∧ (r = -1))) args s 0 0 (xA h0) := ⟨_, rfl⟩
  rw [← eQ]
  generalize hHe : ([] : List Loc) = locs at hW ⊢
  obtain ⟨H, eH⟩ : ∃ H, H = s.heap := ⟨_, rfl⟩
  rw [← eH] at hW ⊢
  refine x_aload_n hx hb hl 0 rfl dX11_felonIs_0 rfl ?_
  refine x_iload_n hx hb hl 1 rfl dX11_felonIs_1 rfl ?_
  refine x_goi (x_runV (As := [.int (xJ f)]) hx hb hml hown hT hE hW hl.1 (Or.inl (by decide)) (so_268 h0 g _) rfl cf_X11_isFelon wq1423 wq111 wq1421 (c_X11_isFelon l D g T h0 s0 hW.2.1 f rf p0) ⟨rfl, rfl, ⟨by decide, by decide⟩, ⟨by decide, by decide⟩⟩ rfl rfl (Nat.le_of_ble_eq_true rfl) dX11_felonIs_2) hW (fun x1 s2 H locs rx1 hp3 hW => ?_)
  obtain ⟨es2, hp3⟩ := hp3
  subst es2
  have ghp3 := hp3
  refine x_if_ne (tgt := 10) hx hb rx1 dX11_felonIs_5 (by decide) (fun c4 => False.elim (by omega)) (fun c4 => ?_)
  refine x_iconst hx hb dX11_felonIs_8 ?_
  rw [eQ]
  exact x_iret hx hb hr hlk hW (by decide) ⟨rfl, by omega⟩ dX11_felonIs_9
set_option maxHeartbeats 4000000 in
set_option maxRecDepth 100000 in
theorem c_X11_shade (l : Launch) (D : va_G) (g : xG) (T : Nat × Nat × Nat) (h0 : Nat) (s0 : xS) (hσ : xRR s0) (x : Int) (rx : xR x) (y : Int) (ry : xR y) (p0 : s0 269 34 = 0) (p1 : s0 295 = fun _ => 0) (p2 : s0 268 17 = 0) (p3 : s0 273 = fun _ => (-1)) : Met l yX11_shade (xws yX11_shade cX11_shade 3 (some .int)) { frames := 3, cells := 0, slots := 0, locals := 67 } (xP [.ref (h0 + 268), .int (xJ x), .int (xJ y)] D g T h0 s0) (xQi D g h0 (fun r τ => xFr (fun k => k = 294 ∨ k = 295) s0 τ ∧ ((r = 0 ∧ 0 ≤ x ∧ x < 10 ∧ 0 ≤ y ∧ y < 10) ∨ (r = -1 ∧ (x < 0 ∨ 10 ≤ x ∨ y < 0 ∨ 10 ≤ y))))) 0 0 (xA h0) := by
  refine x_met hσ (by decide) (Nat.le_of_ble_eq_true rfl) ?_
  intro p e s m args below meth c hx hb hr hml hown hT hlk hnm hE hW ls hl
  have hl : lv_has ls 3 [(0, .ref (h0 + 268)), (1, .int (xJ x)), (2, .int (xJ y))] := hl
  obtain ⟨Q, eQ⟩ : ∃ Q, Q = MQ below (xQi D g h0 (fun r τ => xFr (fun k => k = 294 ∨ k = 295) s0 τ ∧ ((r = 0 ∧ 0 ≤ x ∧ x < 10 ∧ 0 ≤ y ∧ y < 10) ∨ (r = -1 ∧ (x < 0 ∨ 10 ≤ x ∨ y < 0 ∨ 10 ≤ y))))) args s 0 0 (xA h0) := ⟨_, rfl⟩
  rw [← eQ]
  generalize hHe : ([] : List Loc) = locs at hW ⊢
  obtain ⟨H, eH⟩ : ∃ H, H = s.heap := ⟨_, rfl⟩
  rw [← eH] at hW ⊢
  have hF : xFr (fun k => k = 294 ∨ k = 295) s0 s0 := xFr.rf
  refine x_iload_n hx hb hl 1 rfl dX11_shade_0 rfl ?_
  refine x_iload_n hx hb hl 2 rfl dX11_shade_1 rfl ?_
  refine x_goi (x_runS (As := [.int (xJ x), .int (xJ y)]) hx hb hml hown hT hE hW hl.1 cf_X11_isOn wq1430 wq1429 (c_X11_isOn l D g T h0 s0 hW.2.1 x rx y ry) ⟨rfl, rfl, ⟨by decide, by decide⟩, ⟨by decide, by decide⟩⟩ rfl rfl (Nat.le_of_ble_eq_true rfl) dX11_shade_2) hW (fun x1 s2 H locs rx1 hp3 hW => ?_)
  obtain ⟨es2, hp3⟩ := hp3
  subst es2
  have ghp3 := hp3
  refine x_if_ne (tgt := 10) hx hb rx1 dX11_shade_5 (by decide) (fun c4 => ?_) (fun c4 => ?_)
  · skip
    refine x_aload_n hx hb hl 0 rfl dX11_shade_10 rfl ?_
    refine x_aload_n hx hb hl 0 rfl dX11_shade_11 rfl ?_
    refine x_get (j := 0) (v := .ref (h0 + 269)) hx hb hown hT hE hW cls_X11 (Or.inl (by decide)) (so_268 h0 g _) (by decide) rfl wq1185 dX11_shade_12 ?_
    refine x_bipush hx hb dX11_shade_15 (by decide) ?_
    refine x_iald hx hb hE hW (Or.inl (by decide)) (sa_269 h0 g _) ⟨by decide, by decide⟩ (by decide) dX11_shade_17 ?_
    refine x_rd hW (fun x5 ex5 rx5 => ?_)
    refine x_iconst hx hb dX11_shade_18 ?_
    refine x_gov (x_runV (As := [.int (xJ x5), .int (xJ 0)]) hx hb hml hown hT hE hW hl.1 (Or.inl (by decide)) (so_268 h0 g _) rfl cf_X11_laysShades wq1588 wq139 wq1586 (c_X11_laysShades l D g T h0 s0 hW.2.1 x5 rx5 0 (by decide) p1 p2 p3 p0) ⟨rfl, rfl, ⟨by decide, by decide⟩, ⟨by decide, by decide⟩⟩ rfl rfl (Nat.le_of_ble_eq_true rfl) dX11_shade_19) hW (fun s7 H locs hp8 hW => ?_)
    obtain ⟨fs7, hp8⟩ := hp8
    have hF9 := hF.call fs7 (fun k h => by omega)
    have q10 : s7 269 34 = 0 := (congrFun (fs7 _ (by omega)) _).trans p0
    have q11 : s7 268 17 = 0 := (congrFun (fs7 _ (by omega)) _).trans p2
    have q12 : s7 273 = fun _ => (-1) := (fs7 _ (by omega)).trans p3
    have ghp8 := hp8.2
    refine x_aload_n hx hb hl 0 rfl dX11_shade_22 rfl ?_
    refine x_get (j := 40) (v := .ref (h0 + 295)) hx hb hown hT hE hW cls_X11 (Or.inl (by decide)) (so_268 h0 g _) (by decide) rfl wq1225 dX11_shade_23 ?_
    refine x_bipush hx hb dX11_shade_26 (by decide) ?_
    refine x_iload_n hx hb hl 2 rfl dX11_shade_28 rfl ?_
    refine x_imul hx hb dX11_shade_29 ?_
    refine x_iload_n hx hb hl 1 rfl dX11_shade_30 rfl ?_
    refine x_iadd hx hb dX11_shade_31 ?_
    refine x_iald hx hb hE hW (Or.inl (by decide)) (sa_295 h0 g _) (by omega) (by decide) dX11_shade_32 ?_
    refine x_rd hW (fun x13 ex13 rx13 => ?_)
    have fx13 : x13 = 0 := by rw [ex13, hp8.1.1]
    rw [eQ]
    exact x_iret hx hb hr hlk hW rx13 ⟨hF9, by omega⟩ dX11_shade_33
  refine x_iconst hx hb dX11_shade_8 ?_
  rw [eQ]
  exact x_iret hx hb hr hlk hW (by decide) ⟨hF, by omega⟩ dX11_shade_9
set_option maxHeartbeats 4000000 in
set_option maxRecDepth 100000 in
theorem c_X11_laysReach (l : Launch) (D : va_G) (g : xG) (T : Nat × Nat × Nat) (h0 : Nat) (s0 : xS) (hσ : xRR s0) (p0 : s0 269 35 = 0) : Met l yX11_laysReach (xws yX11_laysReach cX11_laysReach 3 none) { frames := 3, cells := 0, slots := 0, locals := 63 } (xP [.ref (h0 + 268)] D g T h0 s0) (xQv D g h0 (fun τ => xFr (fun k => k = 301) s0 τ ∧ (True))) 0 0 (xA h0) := by
  refine x_met hσ (by decide) (Nat.le_of_ble_eq_true rfl) ?_
  intro p e s m args below meth c hx hb hr hml hown hT hlk hnm hE hW ls hl
  have hl : lv_has ls 3 [(0, .ref (h0 + 268))] := hl
  obtain ⟨Q, eQ⟩ : ∃ Q, Q = MQ below (xQv D g h0 (fun τ => xFr (fun k => k = 301) s0 τ ∧ (True))) args s 0 0 (xA h0) := ⟨_, rfl⟩
  rw [← eQ]
  generalize hHe : ([] : List Loc) = locs at hW ⊢
  obtain ⟨H, eH⟩ : ∃ H, H = s.heap := ⟨_, rfl⟩
  rw [← eH] at hW ⊢
  have hF : xFr (fun k => k = 301) s0 s0 := xFr.rf
  refine x_iconst hx hb dX11_laysReach_0 ?_
  refine lv_istore_n (lv' := [(1, .int (xJ 0)), (0, .ref (h0 + 268))]) hx hb dX11_laysReach_1 rfl hl (by decide) rfl (fun ls hl => ?_)
  have L2 : ∀ (fu : Nat) (i1_2 : Int) (s_2 : xS) (H : Heap) (locs : List Loc) (ls : Array Slot), (xR i1_2) → (xFr (fun k => k = 301) s0 s_2) → (s_2 269 35 = 0) → (0 ≤ i1_2) → (100 - i1_2).toNat < fu → xW D g h0 s H locs s_2 → lv_has ls 3 [(0, .ref (h0 + 268)), (1, .int (xJ i1_2))] → W p l e { frames := 3, cells := 0, slots := 0, locals := 63 } s m args below meth c H locs 0 0 Q (F0 m 2 ls []) := by
    intro fu
    induction fu with
    | zero => intro i1_2 s_2 H locs ls ri1_2 hF_2 q2_0 v2_0 hm; exact absurd hm (Nat.not_lt_zero _)
    | succ fu ih2 =>
      intro i1_2 s_2 H locs ls ri1_2 hF_2 q2_0 v2_0 hm hW hl
      refine x_iload_n hx hb hl 1 rfl dX11_laysReach_2 rfl ?_
      refine x_bipush hx hb dX11_laysReach_3 (by decide) ?_
      refine x_icmp_ge (tgt := 21) hx hb ri1_2 (by decide) dX11_laysReach_5 (by decide) (fun c1 => ?_) (fun c1 => ?_)
      · skip
        refine x_iconst hx hb dX11_laysReach_21 ?_
        refine lv_istore_n (lv' := [(1, .int (xJ 0)), (0, .ref (h0 + 268))]) hx hb dX11_laysReach_22 rfl hl (by decide) rfl (fun ls hl => ?_)
        have L23 : ∀ (fu : Nat) (i1_23 : Int) (H : Heap) (locs : List Loc) (ls : Array Slot), (xR i1_23) → (0 ≤ i1_23) → (10 - i1_23).toNat < fu → xW D g h0 s H locs s_2 → lv_has ls 3 [(0, .ref (h0 + 268)), (1, .int (xJ i1_23))] → W p l e { frames := 3, cells := 0, slots := 0, locals := 63 } s m args below meth c H locs 0 0 Q (F0 m 23 ls []) := by
          intro fu
          induction fu with
          | zero => intro i1_23 H locs ls ri1_23 v23_0 hm; exact absurd hm (Nat.not_lt_zero _)
          | succ fu ih23 =>
            intro i1_23 H locs ls ri1_23 v23_0 hm hW hl
            refine x_iload_n hx hb hl 1 rfl dX11_laysReach_23 rfl ?_
            refine x_bipush hx hb dX11_laysReach_24 (by decide) ?_
            refine x_icmp_ge (tgt := 109) hx hb ri1_23 (by decide) dX11_laysReach_26 (by decide) (fun c2 => ?_) (fun c2 => ?_)
            · skip
              rw [eQ]
              exact x_vret hx hb hr hlk hW ⟨hF_2, trivial⟩ dX11_laysReach_109
            refine x_aload_n hx hb hl 0 rfl dX11_laysReach_29 rfl ?_
            refine x_iload_n hx hb hl 1 rfl dX11_laysReach_30 rfl ?_
            refine x_goi (x_runV (As := [.int (xJ i1_23)]) hx hb hml hown hT hE hW hl.1 (Or.inl (by decide)) (so_268 h0 g _) rfl cf_X11_owes wq1620 wq147 wq1618 (c_X11_owes l D g T h0 s_2 hW.2.1 i1_23 ri1_23 q2_0) ⟨rfl, rfl, ⟨by decide, by decide⟩, ⟨by decide, by decide⟩⟩ rfl rfl (Nat.le_of_ble_eq_true rfl) dX11_laysReach_31) hW (fun x3 s4 H locs rx3 hp5 hW => ?_)
            obtain ⟨es4, hp5⟩ := hp5
            subst es4
            have ghp5 := hp5
            refine x_if_ne (tgt := 40) hx hb rx3 dX11_laysReach_34 (by decide) (fun c6 => False.elim (by omega)) (fun c6 => ?_)
            refine lv_goto (tgt := 103) hx hb dX11_laysReach_37 (by decide) ?_
            refine x_iinc (lv' := [(1, .int (xJ (i1_23 + 1))), (0, .ref (h0 + 268))]) hx hb hl 1 rfl dX11_laysReach_103 (by decide) rfl (fun ls hl => ?_)
            refine lv_goto (tgt := 23) hx hb dX11_laysReach_106 (by decide) ?_
            exact ih23 (i1_23 + 1) H locs ls (by omega) (by omega) (by omega) hW (lv_sub hl [1, 0] rfl)
        exact L23 ((10 - 0 : Int).toNat + 1) 0 H locs ls (by decide) (by omega) (Nat.lt_succ_self _) hW (lv_sub hl [1, 0] rfl)
      refine x_aload_n hx hb hl 0 rfl dX11_laysReach_8 rfl ?_
      refine x_get (j := 51) (v := .ref (h0 + 301)) hx hb hown hT hE hW cls_X11 (Or.inl (by decide)) (so_268 h0 g _) (by decide) rfl wq1236 dX11_laysReach_9 ?_
      refine x_iload_n hx hb hl 1 rfl dX11_laysReach_12 rfl ?_
      refine x_iconst hx hb dX11_laysReach_13 ?_
      refine x_iast hx hb hE hW (by decide) (fun σ => sa_301 h0 g σ) (by omega) (by decide) (by decide) dX11_laysReach_14 (fun H locs s7 es7 hW => ?_)
      have q8 : s7 269 35 = 0 := by rw [es7, xU_k _ _ _ (by omega)]; exact q2_0
      have hF9 := hF_2.put es7 (by omega)
      refine x_iinc (lv' := [(1, .int (xJ (i1_2 + 1))), (0, .ref (h0 + 268))]) hx hb hl 1 rfl dX11_laysReach_15 (by decide) rfl (fun ls hl => ?_)
      refine lv_goto (tgt := 2) hx hb dX11_laysReach_18 (by decide) ?_
      exact ih2 (i1_2 + 1) s7 H locs ls (by omega) hF9 q8 (by omega) (by omega) hW (lv_sub hl [1, 0] rfl)
  exact L2 ((100 - 0 : Int).toNat + 1) 0 s0 H locs ls (by decide) hF p0 (by omega) (Nat.lt_succ_self _) hW (lv_sub hl [1, 0] rfl)
set_option maxHeartbeats 4000000 in
set_option maxRecDepth 100000 in
theorem c_X11_mostAtOnce (l : Launch) (D : va_G) (g : xG) (T : Nat × Nat × Nat) (h0 : Nat) (s0 : xS) (hσ : xRR s0) (p0 : s0 269 35 = 0) (p1 : s0 295 = fun _ => 0) : Met l yX11_mostAtOnce (xws yX11_mostAtOnce cX11_mostAtOnce 4 (some .int)) { frames := 4, cells := 0, slots := 0, locals := 85 } (xP [.ref (h0 + 268)] D g T h0 s0) (xQi D g h0 (fun r τ => xFr (fun k => k = 300 ∨ k = 301) s0 τ ∧ (r = 0))) 0 0 (xA h0) := by
  refine x_met hσ (by decide) (Nat.le_of_ble_eq_true rfl) ?_
  intro p e s m args below meth c hx hb hr hml hown hT hlk hnm hE hW ls hl
  have hl : lv_has ls 4 [(0, .ref (h0 + 268))] := hl
  obtain ⟨Q, eQ⟩ : ∃ Q, Q = MQ below (xQi D g h0 (fun r τ => xFr (fun k => k = 300 ∨ k = 301) s0 τ ∧ (r = 0))) args s 0 0 (xA h0) := ⟨_, rfl⟩
  rw [← eQ]
  generalize hHe : ([] : List Loc) = locs at hW ⊢
  obtain ⟨H, eH⟩ : ∃ H, H = s.heap := ⟨_, rfl⟩
  rw [← eH] at hW ⊢
  have hF : xFr (fun k => k = 300 ∨ k = 301) s0 s0 := xFr.rf
  refine x_aload_n hx hb hl 0 rfl dX11_mostAtOnce_0 rfl ?_
  refine x_gov (x_runV (As := []) hx hb hml hown hT hE hW hl.1 (Or.inl (by decide)) (so_268 h0 g _) rfl cf_X11_laysReach wq1674 wq154 wq1672 (c_X11_laysReach l D g T h0 s0 hW.2.1 p0) ⟨rfl, rfl, ⟨by decide, by decide⟩, ⟨by decide, by decide⟩⟩ rfl rfl (Nat.le_of_ble_eq_true rfl) dX11_mostAtOnce_1) hW (fun s2 H locs hp3 hW => ?_)
  obtain ⟨fs2, hp3⟩ := hp3
  have hF4 := hF.call fs2 (fun k h => by omega)
  have q5 : s2 269 35 = 0 := (congrFun (fs2 _ (by omega)) _).trans p0
  have q6 : s2 295 = fun _ => 0 := (fs2 _ (by omega)).trans p1
  have ghp3 := hp3
  refine x_iconst hx hb dX11_mostAtOnce_4 ?_
  refine lv_istore_n (lv' := [(1, .int (xJ 0)), (0, .ref (h0 + 268))]) hx hb dX11_mostAtOnce_5 rfl hl (by decide) rfl (fun ls hl => ?_)
  have L6 : ∀ (fu : Nat) (i1_6 : Int) (s_6 : xS) (H : Heap) (locs : List Loc) (ls : Array Slot), (xR i1_6) → (xFr (fun k => k = 300 ∨ k = 301) s0 s_6) → (s_6 269 35 = 0) → (s_6 295 = fun _ => 0) → (0 ≤ i1_6) → (∀ j : Int, 0 < j → j < i1_6 → s_6 300 j = 0) → (1024 - i1_6).toNat < fu → xW D g h0 s H locs s_6 → lv_has ls 4 [(0, .ref (h0 + 268)), (1, .int (xJ i1_6))] → W p l e { frames := 4, cells := 0, slots := 0, locals := 85 } s m args below meth c H locs 0 0 Q (F0 m 6 ls []) := by
    intro fu
    induction fu with
    | zero => intro i1_6 s_6 H locs ls ri1_6 hF_6 q6_0 q6_1 v6_0 v6_1 hm; exact absurd hm (Nat.not_lt_zero _)
    | succ fu ih6 =>
      intro i1_6 s_6 H locs ls ri1_6 hF_6 q6_0 q6_1 v6_0 v6_1 hm hW hl
      refine x_iload_n hx hb hl 1 rfl dX11_mostAtOnce_6 rfl ?_
      refine x_sipush hx hb dX11_mostAtOnce_7 (by decide) ?_
      refine x_icmp_ge (tgt := 34) hx hb ri1_6 (by decide) dX11_mostAtOnce_10 (by decide) (fun c7 => ?_) (fun c7 => ?_)
      · skip
        refine x_iconst hx hb dX11_mostAtOnce_34 ?_
        refine lv_istore_n (lv' := [(1, .int (xJ 0)), (0, .ref (h0 + 268))]) hx hb dX11_mostAtOnce_35 rfl hl (by decide) rfl (fun ls hl => ?_)
        have L36 : ∀ (fu : Nat) (i1_36 : Int) (ls : Array Slot), (xR i1_36) → (0 ≤ i1_36) → (100 - i1_36).toNat < fu → lv_has ls 4 [(0, .ref (h0 + 268)), (1, .int (xJ i1_36))] → W p l e { frames := 4, cells := 0, slots := 0, locals := 85 } s m args below meth c H locs 0 0 Q (F0 m 36 ls []) := by
          intro fu
          induction fu with
          | zero => intro i1_36 ls ri1_36 v36_0 hm; exact absurd hm (Nat.not_lt_zero _)
          | succ fu ih36 =>
            intro i1_36 ls ri1_36 v36_0 hm  hl
            refine x_iload_n hx hb hl 1 rfl dX11_mostAtOnce_36 rfl ?_
            refine x_bipush hx hb dX11_mostAtOnce_37 (by decide) ?_
            refine x_icmp_ge (tgt := 129) hx hb ri1_36 (by decide) dX11_mostAtOnce_39 (by decide) (fun c8 => ?_) (fun c8 => ?_)
            · skip
              refine x_iconst hx hb dX11_mostAtOnce_129 ?_
              refine lv_istore_n (lv' := [(1, .int (xJ 0)), (0, .ref (h0 + 268))]) hx hb dX11_mostAtOnce_130 rfl hl (by decide) rfl (fun ls hl => ?_)
              refine x_iconst hx hb dX11_mostAtOnce_131 ?_
              refine lv_istore_n (lv' := [(2, .int (xJ 0)), (1, .int (xJ 0)), (0, .ref (h0 + 268))]) hx hb dX11_mostAtOnce_132 rfl hl (by decide) rfl (fun ls hl => ?_)
              have L133 : ∀ (fu : Nat) (i1_133 : Int) (i2_133 : Int) (H : Heap) (locs : List Loc) (ls : Array Slot), (xR i1_133) → (xR i2_133) → (0 ≤ i2_133) → (i1_133 = 0) → (1024 - i2_133).toNat < fu → xW D g h0 s H locs s_6 → lv_has ls 4 [(0, .ref (h0 + 268)), (1, .int (xJ i1_133)), (2, .int (xJ i2_133))] → W p l e { frames := 4, cells := 0, slots := 0, locals := 85 } s m args below meth c H locs 0 0 Q (F0 m 133 ls []) := by
                intro fu
                induction fu with
                | zero => intro i1_133 i2_133 H locs ls ri1_133 ri2_133 v133_0 v133_1 hm; exact absurd hm (Nat.not_lt_zero _)
                | succ fu ih133 =>
                  intro i1_133 i2_133 H locs ls ri1_133 ri2_133 v133_0 v133_1 hm hW hl
                  refine x_iload_n hx hb hl 2 rfl dX11_mostAtOnce_133 rfl ?_
                  refine x_sipush hx hb dX11_mostAtOnce_134 (by decide) ?_
                  refine x_icmp_ge (tgt := 164) hx hb ri2_133 (by decide) dX11_mostAtOnce_137 (by decide) (fun c9 => ?_) (fun c9 => ?_)
                  · skip
                    refine x_iload_n hx hb hl 1 rfl dX11_mostAtOnce_164 rfl ?_
                    rw [eQ]
                    exact x_iret hx hb hr hlk hW ri1_133 ⟨hF_6, by omega⟩ dX11_mostAtOnce_165
                  refine x_aload_n hx hb hl 0 rfl dX11_mostAtOnce_140 rfl ?_
                  refine x_get (j := 50) (v := .ref (h0 + 300)) hx hb hown hT hE hW cls_X11 (Or.inl (by decide)) (so_268 h0 g _) (by decide) rfl wq1235 dX11_mostAtOnce_141 ?_
                  refine x_iload_n hx hb hl 2 rfl dX11_mostAtOnce_144 rfl ?_
                  refine x_zald hx hb hE hW (Or.inl (by decide)) (sa_300 h0 g _) (by omega) (by decide) dX11_mostAtOnce_145 ?_
                  refine x_rd hW (fun x10 ex10 rx10 => ?_)
                  have zx10 : x10 = 0 ∨ i2_133 = 0 := (Classical.em (i2_133 = 0)).elim Or.inr (fun h => Or.inl (by rw [ex10]; exact v6_1 _ (by omega) (by omega)))
                  refine x_if_eq (tgt := 158) hx hb rx10 dX11_mostAtOnce_146 (by decide) (fun c11 => ?_) (fun c11 => ?_)
                  · skip
                    refine x_iinc (lv' := [(2, .int (xJ (i2_133 + 1))), (0, .ref (h0 + 268)), (1, .int (xJ i1_133))]) hx hb hl 2 rfl dX11_mostAtOnce_158 (by decide) rfl (fun ls hl => ?_)
                    refine lv_goto (tgt := 133) hx hb dX11_mostAtOnce_161 (by decide) ?_
                    exact ih133 i1_133 (i2_133 + 1) H locs ls ri1_133 (by omega) (by omega) (by omega) (by omega) hW (lv_sub hl [1, 2, 0] rfl)
                  refine x_iload_n hx hb hl 1 rfl dX11_mostAtOnce_149 rfl ?_
                  refine x_iload_n hx hb hl 2 rfl dX11_mostAtOnce_150 rfl ?_
                  refine x_goi (x_runS (As := [.int (xJ i2_133)]) hx hb hml hown hT hE hW hl.1 cf_X11_bits wq1650 wq1649 (c_X11_bits l D g T h0 s_6 hW.2.1 i2_133 ri2_133 (by omega)) ⟨rfl, rfl, ⟨by decide, by decide⟩, ⟨by decide, by decide⟩⟩ rfl rfl (Nat.le_of_ble_eq_true rfl) dX11_mostAtOnce_151) hW (fun x12 s13 H locs rx12 hp14 hW => ?_)
                  obtain ⟨es13, hp14⟩ := hp14
                  subst es13
                  have ghp14 := hp14
                  refine x_goi (x_runS (As := [.int (xJ i1_133), .int (xJ x12)]) hx hb hml hown hT hE hW hl.1 cf_X11_max wq1677 wq1676 (c_X11_max l D g T h0 s_6 hW.2.1 i1_133 ri1_133 x12 rx12) ⟨rfl, rfl, ⟨by decide, by decide⟩, ⟨by decide, by decide⟩⟩ rfl rfl (Nat.le_of_ble_eq_true rfl) dX11_mostAtOnce_154) hW (fun x15 s16 H locs rx15 hp17 hW => ?_)
                  obtain ⟨es16, hp17⟩ := hp17
                  subst es16
                  have ghp17 := hp17
                  refine lv_istore_n (lv' := [(1, .int (xJ x15)), (0, .ref (h0 + 268)), (2, .int (xJ i2_133))]) hx hb dX11_mostAtOnce_157 rfl hl (by decide) rfl (fun ls hl => ?_)
                  refine x_iinc (lv' := [(2, .int (xJ (i2_133 + 1))), (1, .int (xJ x15)), (0, .ref (h0 + 268))]) hx hb hl 2 rfl dX11_mostAtOnce_158 (by decide) rfl (fun ls hl => ?_)
                  refine lv_goto (tgt := 133) hx hb dX11_mostAtOnce_161 (by decide) ?_
                  exact ih133 x15 (i2_133 + 1) H locs ls rx15 (by omega) (by omega) (by omega) (by omega) hW (lv_sub hl [2, 1, 0] rfl)
              exact L133 ((1024 - 0 : Int).toNat + 1) 0 0 H locs ls (by decide) (by decide) (by omega) (by omega) (Nat.lt_succ_self _) hW (lv_sub hl [2, 1, 0] rfl)
            refine x_aload_n hx hb hl 0 rfl dX11_mostAtOnce_42 rfl ?_
            refine x_get (j := 40) (v := .ref (h0 + 295)) hx hb hown hT hE hW cls_X11 (Or.inl (by decide)) (so_268 h0 g _) (by decide) rfl wq1225 dX11_mostAtOnce_43 ?_
            refine x_iload_n hx hb hl 1 rfl dX11_mostAtOnce_46 rfl ?_
            refine x_iald hx hb hE hW (Or.inl (by decide)) (sa_295 h0 g _) (by omega) (by decide) dX11_mostAtOnce_47 ?_
            refine x_rd hW (fun x18 ex18 rx18 => ?_)
            have fx18 : x18 = 0 := by rw [ex18, q6_1]
            refine x_if_ne (tgt := 54) hx hb rx18 dX11_mostAtOnce_48 (by decide) (fun c19 => False.elim (by omega)) (fun c19 => ?_)
            refine lv_goto (tgt := 123) hx hb dX11_mostAtOnce_51 (by decide) ?_
            refine x_iinc (lv' := [(1, .int (xJ (i1_36 + 1))), (0, .ref (h0 + 268))]) hx hb hl 1 rfl dX11_mostAtOnce_123 (by decide) rfl (fun ls hl => ?_)
            refine lv_goto (tgt := 36) hx hb dX11_mostAtOnce_126 (by decide) ?_
            exact ih36 (i1_36 + 1) ls (by omega) (by omega) (by omega)  (lv_sub hl [1, 0] rfl)
        exact L36 ((100 - 0 : Int).toNat + 1) 0 ls (by decide) (by omega) (Nat.lt_succ_self _)  (lv_sub hl [1, 0] rfl)
      refine x_aload_n hx hb hl 0 rfl dX11_mostAtOnce_13 rfl ?_
      refine x_get (j := 50) (v := .ref (h0 + 300)) hx hb hown hT hE hW cls_X11 (Or.inl (by decide)) (so_268 h0 g _) (by decide) rfl wq1235 dX11_mostAtOnce_14 ?_
      refine x_iload_n hx hb hl 1 rfl dX11_mostAtOnce_17 rfl ?_
      refine x_iload_n hx hb hl 1 rfl dX11_mostAtOnce_18 rfl ?_
      refine x_if_ne (tgt := 26) hx hb ri1_6 dX11_mostAtOnce_19 (by decide) (fun c20 => ?_) (fun c20 => ?_)
      · skip
        refine x_iconst hx hb dX11_mostAtOnce_26 ?_
        refine x_zast hx hb hE hW (by decide) (fun σ => sa_300 h0 g σ) (by omega) (by decide) (by omega) dX11_mostAtOnce_27 (fun H locs s21 es21 hW => ?_)
        have q22 : s21 269 35 = 0 := by rw [es21, xU_k _ _ _ (by omega)]; exact q6_0
        have q23 : s21 295 = fun _ => 0 := by rw [es21, xU_k _ _ _ (by omega)]; exact q6_1
        have hF24 := hF_6.put es21 (by omega)
        refine x_iinc (lv' := [(1, .int (xJ (i1_6 + 1))), (0, .ref (h0 + 268))]) hx hb hl 1 rfl dX11_mostAtOnce_28 (by decide) rfl (fun ls hl => ?_)
        refine lv_goto (tgt := 6) hx hb dX11_mostAtOnce_31 (by decide) ?_
        exact ih6 (i1_6 + 1) s21 H locs ls (by omega) hF24 q22 q23 (by omega) (fun j h1 h2 => by rw [es21, xU_i]; split <;> first | omega | exact v6_1 j h1 (by omega)) (by omega) hW (lv_sub hl [1, 0] rfl)
      refine x_iconst hx hb dX11_mostAtOnce_22 ?_
      refine lv_goto (tgt := 27) hx hb dX11_mostAtOnce_23 (by decide) ?_
      refine x_zast hx hb hE hW (by decide) (fun σ => sa_300 h0 g σ) (by omega) (by decide) (by omega) dX11_mostAtOnce_27 (fun H locs s25 es25 hW => ?_)
      have q26 : s25 269 35 = 0 := by rw [es25, xU_k _ _ _ (by omega)]; exact q6_0
      have q27 : s25 295 = fun _ => 0 := by rw [es25, xU_k _ _ _ (by omega)]; exact q6_1
      have hF28 := hF_6.put es25 (by omega)
      refine x_iinc (lv' := [(1, .int (xJ (i1_6 + 1))), (0, .ref (h0 + 268))]) hx hb hl 1 rfl dX11_mostAtOnce_28 (by decide) rfl (fun ls hl => ?_)
      refine lv_goto (tgt := 6) hx hb dX11_mostAtOnce_31 (by decide) ?_
      exact ih6 (i1_6 + 1) s25 H locs ls (by omega) hF28 q26 q27 (by omega) (fun j h1 h2 => by rw [es25, xU_i]; split <;> first | omega | exact v6_1 j h1 (by omega)) (by omega) hW (lv_sub hl [1, 0] rfl)
  exact L6 ((1024 - 0 : Int).toNat + 1) 0 s2 H locs ls (by decide) hF4 q5 q6 (by omega) (fun j h1 h2 => False.elim (by omega)) (Nat.lt_succ_self _) hW (lv_sub hl [1, 0] rfl)
set_option maxHeartbeats 4000000 in
set_option maxRecDepth 100000 in
theorem c_X11_atOnce (l : Launch) (D : va_G) (g : xG) (T : Nat × Nat × Nat) (h0 : Nat) (s0 : xS) (hσ : xRR s0) (x : Int) (rx : xR x) (p0 : s0 269 34 = 0) (p1 : s0 269 35 = 0) (p2 : s0 295 = fun _ => 0) (p3 : s0 268 17 = 0) (p4 : s0 273 = fun _ => (-1)) : Met l yX11_atOnce (xws yX11_atOnce cX11_atOnce 4 (some .int)) { frames := 5, cells := 0, slots := 0, locals := 108 } (xP [.ref (h0 + 268), .int (xJ x)] D g T h0 s0) (xQi D g h0 (fun r τ => xFr (fun k => k = 294 ∨ k = 295 ∨ k = 300 ∨ k = 301) s0 τ ∧ ((r = 0 ∧ 0 ≤ x ∧ x ≤ 2) ∨ (r = -1 ∧ (x < 0 ∨ 2 < x))))) 0 0 (xA h0) := by
  refine x_met hσ (by decide) (Nat.le_of_ble_eq_true rfl) ?_
  intro p e s m args below meth c hx hb hr hml hown hT hlk hnm hE hW ls hl
  have hl : lv_has ls 4 [(0, .ref (h0 + 268)), (1, .int (xJ x))] := hl
  obtain ⟨Q, eQ⟩ : ∃ Q, Q = MQ below (xQi D g h0 (fun r τ => xFr (fun k => k = 294 ∨ k = 295 ∨ k = 300 ∨ k = 301) s0 τ ∧ ((r = 0 ∧ 0 ≤ x ∧ x ≤ 2) ∨ (r = -1 ∧ (x < 0 ∨ 2 < x))))) args s 0 0 (xA h0) := ⟨_, rfl⟩
  rw [← eQ]
  generalize hHe : ([] : List Loc) = locs at hW ⊢
  obtain ⟨H, eH⟩ : ∃ H, H = s.heap := ⟨_, rfl⟩
  rw [← eH] at hW ⊢
  have hF : xFr (fun k => k = 294 ∨ k = 295 ∨ k = 300 ∨ k = 301) s0 s0 := xFr.rf
  refine x_iload_n hx hb hl 1 rfl dX11_atOnce_0 rfl ?_
  refine x_iconst hx hb dX11_atOnce_1 ?_
  refine x_iconst hx hb dX11_atOnce_2 ?_
  refine x_goi (x_runS (As := [.int (xJ x), .int (xJ 0), .int (xJ 2)]) hx hb hml hown hT hE hW hl.1 cf_X11_in wq1383 wq1382 (c_X11_in l D g T h0 s0 hW.2.1 x rx 0 (by decide) 2 (by decide)) ⟨rfl, rfl, ⟨by decide, by decide⟩, ⟨by decide, by decide⟩⟩ rfl rfl (Nat.le_of_ble_eq_true rfl) dX11_atOnce_3) hW (fun x1 s2 H locs rx1 hp3 hW => ?_)
  obtain ⟨es2, hp3⟩ := hp3
  subst es2
  have ghp3 := hp3
  refine x_if_ne (tgt := 11) hx hb rx1 dX11_atOnce_6 (by decide) (fun c4 => ?_) (fun c4 => ?_)
  · skip
    refine x_aload_n hx hb hl 0 rfl dX11_atOnce_11 rfl ?_
    refine x_aload_n hx hb hl 0 rfl dX11_atOnce_12 rfl ?_
    refine x_get (j := 0) (v := .ref (h0 + 269)) hx hb hown hT hE hW cls_X11 (Or.inl (by decide)) (so_268 h0 g _) (by decide) rfl wq1185 dX11_atOnce_13 ?_
    refine x_bipush hx hb dX11_atOnce_16 (by decide) ?_
    refine x_iald hx hb hE hW (Or.inl (by decide)) (sa_269 h0 g _) ⟨by decide, by decide⟩ (by decide) dX11_atOnce_18 ?_
    refine x_rd hW (fun x5 ex5 rx5 => ?_)
    refine x_iconst hx hb dX11_atOnce_19 ?_
    refine x_gov (x_runV (As := [.int (xJ x5), .int (xJ 0)]) hx hb hml hown hT hE hW hl.1 (Or.inl (by decide)) (so_268 h0 g _) rfl cf_X11_laysShades wq1588 wq139 wq1586 (c_X11_laysShades l D g T h0 s0 hW.2.1 x5 rx5 0 (by decide) p2 p3 p4 p0) ⟨rfl, rfl, ⟨by decide, by decide⟩, ⟨by decide, by decide⟩⟩ rfl rfl (Nat.le_of_ble_eq_true rfl) dX11_atOnce_20) hW (fun s7 H locs hp8 hW => ?_)
    obtain ⟨fs7, hp8⟩ := hp8
    have hF9 := hF.call fs7 (fun k h => by omega)
    have q10 : s7 269 34 = 0 := (congrFun (fs7 _ (by omega)) _).trans p0
    have q11 : s7 269 35 = 0 := (congrFun (fs7 _ (by omega)) _).trans p1
    have q12 : s7 268 17 = 0 := (congrFun (fs7 _ (by omega)) _).trans p3
    have q13 : s7 273 = fun _ => (-1) := (fs7 _ (by omega)).trans p4
    have ghp8 := hp8.2
    refine x_iload_n hx hb hl 1 rfl dX11_atOnce_23 rfl ?_
    refine x_if_ne (tgt := 32) hx hb rx dX11_atOnce_24 (by decide) (fun c14 => ?_) (fun c14 => ?_)
    · skip
      refine x_iconst hx hb dX11_atOnce_32 ?_
      refine lv_istore_n (lv' := [(2, .int (xJ 0)), (0, .ref (h0 + 268)), (1, .int (xJ x))]) hx hb dX11_atOnce_33 rfl hl (by decide) rfl (fun ls hl => ?_)
      refine x_iconst hx hb dX11_atOnce_34 ?_
      refine lv_istore_n (lv' := [(3, .int (xJ 0)), (2, .int (xJ 0)), (0, .ref (h0 + 268)), (1, .int (xJ x))]) hx hb dX11_atOnce_35 rfl hl (by decide) rfl (fun ls hl => ?_)
      have L36 : ∀ (fu : Nat) (i2_36 : Int) (i3_36 : Int) (ls : Array Slot), (xR i2_36) → (xR i3_36) → (0 ≤ i3_36) → (i2_36 = 0) → (100 - i3_36).toNat < fu → lv_has ls 4 [(0, .ref (h0 + 268)), (1, .int (xJ x)), (2, .int (xJ i2_36)), (3, .int (xJ i3_36))] → W p l e { frames := 5, cells := 0, slots := 0, locals := 108 } s m args below meth c H locs 0 0 Q (F0 m 36 ls []) := by
        intro fu
        induction fu with
        | zero => intro i2_36 i3_36 ls ri2_36 ri3_36 v36_0 v36_1 hm; exact absurd hm (Nat.not_lt_zero _)
        | succ fu ih36 =>
          intro i2_36 i3_36 ls ri2_36 ri3_36 v36_0 v36_1 hm  hl
          refine x_iload_n hx hb hl 3 rfl dX11_atOnce_36 rfl ?_
          refine x_bipush hx hb dX11_atOnce_37 (by decide) ?_
          refine x_icmp_ge (tgt := 66) hx hb ri3_36 (by decide) dX11_atOnce_39 (by decide) (fun c15 => ?_) (fun c15 => ?_)
          · skip
            refine x_iload_n hx hb hl 2 rfl dX11_atOnce_66 rfl ?_
            rw [eQ]
            exact x_iret hx hb hr hlk hW ri2_36 ⟨hF9, by omega⟩ dX11_atOnce_67
          refine x_iload_n hx hb hl 2 rfl dX11_atOnce_42 rfl ?_
          refine x_aload_n hx hb hl 0 rfl dX11_atOnce_43 rfl ?_
          refine x_get (j := 40) (v := .ref (h0 + 295)) hx hb hown hT hE hW cls_X11 (Or.inl (by decide)) (so_268 h0 g _) (by decide) rfl wq1225 dX11_atOnce_44 ?_
          refine x_iload_n hx hb hl 3 rfl dX11_atOnce_47 rfl ?_
          refine x_iald hx hb hE hW (Or.inl (by decide)) (sa_295 h0 g _) (by omega) (by decide) dX11_atOnce_48 ?_
          refine x_rd hW (fun x16 ex16 rx16 => ?_)
          have fx16 : x16 = 0 := by rw [ex16, hp8.1.1]
          refine x_iload_n hx hb hl 1 rfl dX11_atOnce_49 rfl ?_
          refine x_icmp_lt (tgt := 57) hx hb rx16 rx dX11_atOnce_50 (by decide) (fun c17 => ?_) (fun c17 => False.elim (by omega))
          refine x_iconst hx hb dX11_atOnce_57 ?_
          refine x_iadd hx hb dX11_atOnce_58 ?_
          refine x_nm (fun x18 ex18 => ?_)
          refine lv_istore_n (lv' := [(2, .int (xJ x18)), (0, .ref (h0 + 268)), (1, .int (xJ x)), (3, .int (xJ i3_36))]) hx hb dX11_atOnce_59 rfl hl (by decide) rfl (fun ls hl => ?_)
          refine x_iinc (lv' := [(3, .int (xJ (i3_36 + 1))), (2, .int (xJ x18)), (0, .ref (h0 + 268)), (1, .int (xJ x))]) hx hb hl 3 rfl dX11_atOnce_60 (by decide) rfl (fun ls hl => ?_)
          refine lv_goto (tgt := 36) hx hb dX11_atOnce_63 (by decide) ?_
          exact ih36 x18 (i3_36 + 1) ls (by omega) (by omega) (by omega) (by omega) (by omega)  (lv_sub hl [2, 3, 1, 0] rfl)
      exact L36 ((100 - 0 : Int).toNat + 1) 0 0 ls (by decide) (by decide) (by omega) (by omega) (Nat.lt_succ_self _)  (lv_sub hl [2, 3, 1, 0] rfl)
    refine x_aload_n hx hb hl 0 rfl dX11_atOnce_27 rfl ?_
    refine x_goi (x_runV (As := []) hx hb hml hown hT hE hW hl.1 (Or.inl (by decide)) (so_268 h0 g _) rfl cf_X11_mostAtOnce wq1670 wq153 wq1668 (c_X11_mostAtOnce l D g T h0 s7 hW.2.1 q11 hp8.1.1) ⟨rfl, rfl, ⟨by decide, by decide⟩, ⟨by decide, by decide⟩⟩ rfl rfl (Nat.le_of_ble_eq_true rfl) dX11_atOnce_28) hW (fun x19 s20 H locs rx19 hp21 hW => ?_)
    obtain ⟨fs20, hp21⟩ := hp21
    have hF22 := hF9.call fs20 (fun k h => by omega)
    have q23 : s20 269 34 = 0 := (congrFun (fs20 _ (by omega)) _).trans q10
    have q24 : s20 269 35 = 0 := (congrFun (fs20 _ (by omega)) _).trans q11
    have q25 : s20 268 17 = 0 := (congrFun (fs20 _ (by omega)) _).trans q12
    have q26 : s20 273 = fun _ => (-1) := (fs20 _ (by omega)).trans q13
    have q27 : s20 295 = fun _ => 0 := (fs20 _ (by omega)).trans hp8.1.1
    have ghp21 := hp21
    rw [eQ]
    exact x_iret hx hb hr hlk hW rx19 ⟨hF22, by omega⟩ dX11_atOnce_31
  refine x_iconst hx hb dX11_atOnce_9 ?_
  rw [eQ]
  exact x_iret hx hb hr hlk hW (by decide) ⟨hF, by omega⟩ dX11_atOnce_10
set_option maxHeartbeats 4000000 in
set_option maxRecDepth 100000 in
theorem c_X11_fewest (l : Launch) (D : va_G) (g : xG) (T : Nat × Nat × Nat) (h0 : Nat) (s0 : xS) (hσ : xRR s0) (f : Int) (rf : xR f) (n : Int) (rn : xR n) (x : Int) (rx : xR x) (p0 : s0 269 35 = 0) : Met l yX11_fewest (xws yX11_fewest cX11_fewest 6 (some .int)) { frames := 2, cells := 0, slots := 0, locals := 42 } (xP [.ref (h0 + 268), .int (xJ f), .int (xJ n), .int (xJ x)] D g T h0 s0) (xQi D g h0 (fun r τ => s0 = τ ∧ (r = -1))) 0 0 (xA h0) := by
  refine x_met hσ (by decide) (Nat.le_of_ble_eq_true rfl) ?_
  intro p e s m args below meth c hx hb hr hml hown hT hlk hnm hE hW ls hl
  have hl : lv_has ls 6 [(0, .ref (h0 + 268)), (1, .int (xJ f)), (2, .int (xJ n)), (3, .int (xJ x))] := hl
  obtain ⟨Q, eQ⟩ : ∃ Q, Q = MQ below (xQi D g h0 (fun r τ => s0 = τ ∧ (r = -1))) args s 0 0 (xA h0) := ⟨_, rfl⟩
  rw [← eQ]
  generalize hHe : ([] : List Loc) = locs at hW ⊢
  obtain ⟨H, eH⟩ : ∃ H, H = s.heap := ⟨_, rfl⟩
  rw [← eH] at hW ⊢
  refine x_aload_n hx hb hl 0 rfl dX11_fewest_0 rfl ?_
  refine x_iload_n hx hb hl 1 rfl dX11_fewest_1 rfl ?_
  refine x_goi (x_runV (As := [.int (xJ f)]) hx hb hml hown hT hE hW hl.1 (Or.inl (by decide)) (so_268 h0 g _) rfl cf_X11_isFelon wq1423 wq111 wq1421 (c_X11_isFelon l D g T h0 s0 hW.2.1 f rf p0) ⟨rfl, rfl, ⟨by decide, by decide⟩, ⟨by decide, by decide⟩⟩ rfl rfl (Nat.le_of_ble_eq_true rfl) dX11_fewest_2) hW (fun x1 s2 H locs rx1 hp3 hW => ?_)
  obtain ⟨es2, hp3⟩ := hp3
  subst es2
  have ghp3 := hp3
  refine x_if_eq (tgt := 27) hx hb rx1 dX11_fewest_5 (by decide) (fun c4 => ?_) (fun c4 => False.elim (by omega))
  refine x_iconst hx hb dX11_fewest_27 ?_
  rw [eQ]
  exact x_iret hx hb hr hlk hW (by decide) ⟨rfl, by omega⟩ dX11_fewest_28
set_option maxHeartbeats 4000000 in
set_option maxRecDepth 100000 in
theorem c_X11_home (l : Launch) (D : va_G) (g : xG) (T : Nat × Nat × Nat) (h0 : Nat) (s0 : xS) (hσ : xRR s0) (j : Int) (rj : xR j) (n : Int) (rn : xR n) (x : Int) (rx : xR x) (p0 : s0 269 34 = 0) : Met l yX11_home (xws yX11_home cX11_home 9 (some .int)) { frames := 2, cells := 0, slots := 0, locals := 42 } (xP [.ref (h0 + 268), .int (xJ j), .int (xJ n), .int (xJ x)] D g T h0 s0) (xQi D g h0 (fun r τ => s0 = τ ∧ (r = -1))) 0 0 (xA h0) := by
  refine x_met hσ (by decide) (Nat.le_of_ble_eq_true rfl) ?_
  intro p e s m args below meth c hx hb hr hml hown hT hlk hnm hE hW ls hl
  have hl : lv_has ls 9 [(0, .ref (h0 + 268)), (1, .int (xJ j)), (2, .int (xJ n)), (3, .int (xJ x))] := hl
  obtain ⟨Q, eQ⟩ : ∃ Q, Q = MQ below (xQi D g h0 (fun r τ => s0 = τ ∧ (r = -1))) args s 0 0 (xA h0) := ⟨_, rfl⟩
  rw [← eQ]
  generalize hHe : ([] : List Loc) = locs at hW ⊢
  obtain ⟨H, eH⟩ : ∃ H, H = s.heap := ⟨_, rfl⟩
  rw [← eH] at hW ⊢
  refine x_aload_n hx hb hl 0 rfl dX11_home_0 rfl ?_
  refine x_iload_n hx hb hl 1 rfl dX11_home_1 rfl ?_
  refine x_goi (x_runV (As := [.int (xJ j)]) hx hb hml hown hT hE hW hl.1 (Or.inl (by decide)) (so_268 h0 g _) rfl cf_X11_isJudge wq1409 wq109 wq1407 (c_X11_isJudge l D g T h0 s0 hW.2.1 j rj p0) ⟨rfl, rfl, ⟨by decide, by decide⟩, ⟨by decide, by decide⟩⟩ rfl rfl (Nat.le_of_ble_eq_true rfl) dX11_home_2) hW (fun x1 s2 H locs rx1 hp3 hW => ?_)
  obtain ⟨es2, hp3⟩ := hp3
  subst es2
  have ghp3 := hp3
  refine x_if_eq (tgt := 34) hx hb rx1 dX11_home_5 (by decide) (fun c4 => ?_) (fun c4 => False.elim (by omega))
  refine x_iconst hx hb dX11_home_34 ?_
  rw [eQ]
  exact x_iret hx hb hr hlk hW (by decide) ⟨rfl, by omega⟩ dX11_home_35
set_option maxHeartbeats 4000000 in
set_option maxRecDepth 100000 in
theorem c_X11_isFree (l : Launch) (D : va_G) (g : xG) (T : Nat × Nat × Nat) (h0 : Nat) (s0 : xS) (hσ : xRR s0) (x : Int) (rx : xR x) (hx0 : 0 ≤ x ∧ x < 100) (p0 : s0 269 34 = 0) (p1 : s0 269 35 = 0) (p2 : s0 272 = fun _ => 0) (p3 : s0 273 = fun _ => (-1)) : Met l yX11_isFree (xws yX11_isFree cX11_isFree 3 (some .boolean)) { frames := 2, cells := 0, slots := 0, locals := 42 } (xP [.ref (h0 + 268), .int (xJ x)] D g T h0 s0) (xQi D g h0 (fun r τ => s0 = τ ∧ (r = 1))) 0 0 (xA h0) := by
  refine x_met hσ (by decide) (Nat.le_of_ble_eq_true rfl) ?_
  intro p e s m args below meth c hx hb hr hml hown hT hlk hnm hE hW ls hl
  have hl : lv_has ls 3 [(0, .ref (h0 + 268)), (1, .int (xJ x))] := hl
  obtain ⟨Q, eQ⟩ : ∃ Q, Q = MQ below (xQi D g h0 (fun r τ => s0 = τ ∧ (r = 1))) args s 0 0 (xA h0) := ⟨_, rfl⟩
  rw [← eQ]
  generalize hHe : ([] : List Loc) = locs at hW ⊢
  obtain ⟨H, eH⟩ : ∃ H, H = s.heap := ⟨_, rfl⟩
  rw [← eH] at hW ⊢
  refine x_aload_n hx hb hl 0 rfl dX11_isFree_0 rfl ?_
  refine x_get (j := 3) (v := .ref (h0 + 272)) hx hb hown hT hE hW cls_X11 (Or.inl (by decide)) (so_268 h0 g _) (by decide) rfl wq1188 dX11_isFree_1 ?_
  refine x_iload_n hx hb hl 1 rfl dX11_isFree_4 rfl ?_
  refine x_iald hx hb hE hW (Or.inl (by decide)) (sa_272 h0 g _) (by omega) (by decide) dX11_isFree_5 ?_
  refine x_rd hW (fun x1 ex1 rx1 => ?_)
  have fx1 : x1 = 0 := by rw [ex1, p2]
  refine x_if_eq (tgt := 11) hx hb rx1 dX11_isFree_6 (by decide) (fun c2 => ?_) (fun c2 => False.elim (by omega))
  refine x_iconst hx hb dX11_isFree_11 ?_
  refine lv_istore_n (lv' := [(2, .int (xJ 0)), (0, .ref (h0 + 268)), (1, .int (xJ x))]) hx hb dX11_isFree_12 rfl hl (by decide) rfl (fun ls hl => ?_)
  have L13 : ∀ (fu : Nat) (i2_13 : Int) (H : Heap) (locs : List Loc) (ls : Array Slot), (xR i2_13) → (0 ≤ i2_13) → (2 - i2_13).toNat < fu → xW D g h0 s H locs s0 → lv_has ls 3 [(0, .ref (h0 + 268)), (1, .int (xJ x)), (2, .int (xJ i2_13))] → W p l e { frames := 2, cells := 0, slots := 0, locals := 42 } s m args below meth c H locs 0 0 Q (F0 m 13 ls []) := by
    intro fu
    induction fu with
    | zero => intro i2_13 H locs ls ri2_13 v13_0 hm; exact absurd hm (Nat.not_lt_zero _)
    | succ fu ih13 =>
      intro i2_13 H locs ls ri2_13 v13_0 hm hW hl
      refine x_iload_n hx hb hl 2 rfl dX11_isFree_13 rfl ?_
      refine x_iconst hx hb dX11_isFree_14 ?_
      refine x_icmp_ge (tgt := 46) hx hb ri2_13 (by decide) dX11_isFree_15 (by decide) (fun c3 => ?_) (fun c3 => ?_)
      · skip
        refine x_iconst hx hb dX11_isFree_46 ?_
        refine lv_istore_n (lv' := [(2, .int (xJ 0)), (0, .ref (h0 + 268)), (1, .int (xJ x))]) hx hb dX11_isFree_47 rfl hl (by decide) rfl (fun ls hl => ?_)
        have L48 : ∀ (fu : Nat) (i2_48 : Int) (H : Heap) (locs : List Loc) (ls : Array Slot), (xR i2_48) → (0 ≤ i2_48) → (10 - i2_48).toNat < fu → xW D g h0 s H locs s0 → lv_has ls 3 [(0, .ref (h0 + 268)), (1, .int (xJ x)), (2, .int (xJ i2_48))] → W p l e { frames := 2, cells := 0, slots := 0, locals := 42 } s m args below meth c H locs 0 0 Q (F0 m 48 ls []) := by
          intro fu
          induction fu with
          | zero => intro i2_48 H locs ls ri2_48 v48_0 hm; exact absurd hm (Nat.not_lt_zero _)
          | succ fu ih48 =>
            intro i2_48 H locs ls ri2_48 v48_0 hm hW hl
            refine x_iload_n hx hb hl 2 rfl dX11_isFree_48 rfl ?_
            refine x_bipush hx hb dX11_isFree_49 (by decide) ?_
            refine x_icmp_ge (tgt := 82) hx hb ri2_48 (by decide) dX11_isFree_51 (by decide) (fun c4 => ?_) (fun c4 => ?_)
            · skip
              refine x_iconst hx hb dX11_isFree_82 ?_
              refine lv_istore_n (lv' := [(2, .int (xJ 0)), (0, .ref (h0 + 268)), (1, .int (xJ x))]) hx hb dX11_isFree_83 rfl hl (by decide) rfl (fun ls hl => ?_)
              have L84 : ∀ (fu : Nat) (i2_84 : Int) (ls : Array Slot), (xR i2_84) → (0 ≤ i2_84) → (4 - i2_84).toNat < fu → lv_has ls 3 [(0, .ref (h0 + 268)), (1, .int (xJ x)), (2, .int (xJ i2_84))] → W p l e { frames := 2, cells := 0, slots := 0, locals := 42 } s m args below meth c H locs 0 0 Q (F0 m 84 ls []) := by
                intro fu
                induction fu with
                | zero => intro i2_84 ls ri2_84 v84_0 hm; exact absurd hm (Nat.not_lt_zero _)
                | succ fu ih84 =>
                  intro i2_84 ls ri2_84 v84_0 hm  hl
                  refine x_iload_n hx hb hl 2 rfl dX11_isFree_84 rfl ?_
                  refine x_iconst hx hb dX11_isFree_85 ?_
                  refine x_icmp_ge (tgt := 107) hx hb ri2_84 (by decide) dX11_isFree_86 (by decide) (fun c5 => ?_) (fun c5 => ?_)
                  · skip
                    refine x_iconst hx hb dX11_isFree_107 ?_
                    rw [eQ]
                    exact x_zret hx hb hr hlk hW (by omega) ⟨rfl, by omega⟩ dX11_isFree_108
                  refine x_aload_n hx hb hl 0 rfl dX11_isFree_89 rfl ?_
                  refine x_get (j := 4) (v := .ref (h0 + 273)) hx hb hown hT hE hW cls_X11 (Or.inl (by decide)) (so_268 h0 g _) (by decide) rfl wq1189 dX11_isFree_90 ?_
                  refine x_iload_n hx hb hl 2 rfl dX11_isFree_93 rfl ?_
                  refine x_iald hx hb hE hW (Or.inl (by decide)) (sa_273 h0 g _) (by omega) (by decide) dX11_isFree_94 ?_
                  refine x_rd hW (fun x6 ex6 rx6 => ?_)
                  have fx6 : x6 = (-1) := by rw [ex6, p3]
                  refine x_iload_n hx hb hl 1 rfl dX11_isFree_95 rfl ?_
                  refine x_icmp_ne (tgt := 101) hx hb rx6 rx dX11_isFree_96 (by decide) (fun c7 => ?_) (fun c7 => False.elim (by omega))
                  refine x_iinc (lv' := [(2, .int (xJ (i2_84 + 1))), (0, .ref (h0 + 268)), (1, .int (xJ x))]) hx hb hl 2 rfl dX11_isFree_101 (by decide) rfl (fun ls hl => ?_)
                  refine lv_goto (tgt := 84) hx hb dX11_isFree_104 (by decide) ?_
                  exact ih84 (i2_84 + 1) ls (by omega) (by omega) (by omega)  (lv_sub hl [1, 2, 0] rfl)
              exact L84 ((4 - 0 : Int).toNat + 1) 0 ls (by decide) (by omega) (Nat.lt_succ_self _)  (lv_sub hl [1, 2, 0] rfl)
            refine x_aload_n hx hb hl 0 rfl dX11_isFree_54 rfl ?_
            refine x_iload_n hx hb hl 2 rfl dX11_isFree_55 rfl ?_
            refine x_goi (x_runV (As := [.int (xJ i2_48)]) hx hb hml hown hT hE hW hl.1 (Or.inl (by decide)) (so_268 h0 g _) rfl cf_X11_isFelon wq1423 wq111 wq1421 (c_X11_isFelon l D g T h0 s0 hW.2.1 i2_48 ri2_48 p1) ⟨rfl, rfl, ⟨by decide, by decide⟩, ⟨by decide, by decide⟩⟩ rfl rfl (Nat.le_of_ble_eq_true rfl) dX11_isFree_56) hW (fun x8 s9 H locs rx8 hp10 hW => ?_)
            obtain ⟨es9, hp10⟩ := hp10
            subst es9
            have ghp10 := hp10
            refine x_if_eq (tgt := 76) hx hb rx8 dX11_isFree_59 (by decide) (fun c11 => ?_) (fun c11 => False.elim (by omega))
            refine x_iinc (lv' := [(2, .int (xJ (i2_48 + 1))), (0, .ref (h0 + 268)), (1, .int (xJ x))]) hx hb hl 2 rfl dX11_isFree_76 (by decide) rfl (fun ls hl => ?_)
            refine lv_goto (tgt := 48) hx hb dX11_isFree_79 (by decide) ?_
            exact ih48 (i2_48 + 1) H locs ls (by omega) (by omega) (by omega) hW (lv_sub hl [1, 2, 0] rfl)
        exact L48 ((10 - 0 : Int).toNat + 1) 0 H locs ls (by decide) (by omega) (Nat.lt_succ_self _) hW (lv_sub hl [1, 2, 0] rfl)
      refine x_aload_n hx hb hl 0 rfl dX11_isFree_18 rfl ?_
      refine x_iload_n hx hb hl 2 rfl dX11_isFree_19 rfl ?_
      refine x_goi (x_runV (As := [.int (xJ i2_13)]) hx hb hml hown hT hE hW hl.1 (Or.inl (by decide)) (so_268 h0 g _) rfl cf_X11_isJudge wq1409 wq109 wq1407 (c_X11_isJudge l D g T h0 s0 hW.2.1 i2_13 ri2_13 p0) ⟨rfl, rfl, ⟨by decide, by decide⟩, ⟨by decide, by decide⟩⟩ rfl rfl (Nat.le_of_ble_eq_true rfl) dX11_isFree_20) hW (fun x12 s13 H locs rx12 hp14 hW => ?_)
      obtain ⟨es13, hp14⟩ := hp14
      subst es13
      have ghp14 := hp14
      refine x_if_eq (tgt := 40) hx hb rx12 dX11_isFree_23 (by decide) (fun c15 => ?_) (fun c15 => False.elim (by omega))
      refine x_iinc (lv' := [(2, .int (xJ (i2_13 + 1))), (0, .ref (h0 + 268)), (1, .int (xJ x))]) hx hb hl 2 rfl dX11_isFree_40 (by decide) rfl (fun ls hl => ?_)
      refine lv_goto (tgt := 13) hx hb dX11_isFree_43 (by decide) ?_
      exact ih13 (i2_13 + 1) H locs ls (by omega) (by omega) (by omega) hW (lv_sub hl [1, 2, 0] rfl)
  exact L13 ((2 - 0 : Int).toNat + 1) 0 H locs ls (by decide) (by omega) (Nat.lt_succ_self _) hW (lv_sub hl [1, 2, 0] rfl)
set_option maxHeartbeats 4000000 in
set_option maxRecDepth 100000 in
theorem c_X11_hung (l : Launch) (D : va_G) (g : xG) (T : Nat × Nat × Nat) (h0 : Nat) (s0 : xS) (hσ : xRR s0) (x : Int) (rx : xR x) (p0 : s0 269 34 = 0) (p1 : s0 269 35 = 0) (p2 : s0 272 = fun _ => 0) (p3 : s0 273 = fun _ => (-1)) (p4 : s0 295 = fun _ => 0) : Met l yX11_hung (xws yX11_hung cX11_hung 7 (some .int)) { frames := 3, cells := 0, slots := 0, locals := 64 } (xP [.ref (h0 + 268), .int (xJ x)] D g T h0 s0) (xQi D g h0 (fun r τ => xFr (fun k => k = 295) s0 τ ∧ ((r = 0 ∧ 0 ≤ x ∧ x ≤ 1) ∨ (r = -1 ∧ (x < 0 ∨ 1 < x))))) 0 0 (xA h0) := by
  refine x_met hσ (by decide) (Nat.le_of_ble_eq_true rfl) ?_
  intro p e s m args below meth c hx hb hr hml hown hT hlk hnm hE hW ls hl
  have hl : lv_has ls 7 [(0, .ref (h0 + 268)), (1, .int (xJ x))] := hl
  obtain ⟨Q, eQ⟩ : ∃ Q, Q = MQ below (xQi D g h0 (fun r τ => xFr (fun k => k = 295) s0 τ ∧ ((r = 0 ∧ 0 ≤ x ∧ x ≤ 1) ∨ (r = -1 ∧ (x < 0 ∨ 1 < x))))) args s 0 0 (xA h0) := ⟨_, rfl⟩
  rw [← eQ]
  generalize hHe : ([] : List Loc) = locs at hW ⊢
  obtain ⟨H, eH⟩ : ∃ H, H = s.heap := ⟨_, rfl⟩
  rw [← eH] at hW ⊢
  have hF : xFr (fun k => k = 295) s0 s0 := xFr.rf
  refine x_iload_n hx hb hl 1 rfl dX11_hung_0 rfl ?_
  refine x_iconst hx hb dX11_hung_1 ?_
  refine x_iconst hx hb dX11_hung_2 ?_
  refine x_goi (x_runS (As := [.int (xJ x), .int (xJ 0), .int (xJ 1)]) hx hb hml hown hT hE hW hl.1 cf_X11_in wq1383 wq1382 (c_X11_in l D g T h0 s0 hW.2.1 x rx 0 (by decide) 1 (by decide)) ⟨rfl, rfl, ⟨by decide, by decide⟩, ⟨by decide, by decide⟩⟩ rfl rfl (Nat.le_of_ble_eq_true rfl) dX11_hung_3) hW (fun x1 s2 H locs rx1 hp3 hW => ?_)
  obtain ⟨es2, hp3⟩ := hp3
  subst es2
  have ghp3 := hp3
  refine x_if_ne (tgt := 11) hx hb rx1 dX11_hung_6 (by decide) (fun c4 => ?_) (fun c4 => ?_)
  · skip
    refine x_bipush hx hb dX11_hung_11 (by decide) ?_
    refine lv_istore_n (lv' := [(2, .int (xJ (-2))), (0, .ref (h0 + 268)), (1, .int (xJ x))]) hx hb dX11_hung_13 rfl hl (by decide) rfl (fun ls hl => ?_)
    refine x_iconst hx hb dX11_hung_14 ?_
    refine lv_istore_n (lv' := [(3, .int (xJ (-1))), (2, .int (xJ (-2))), (0, .ref (h0 + 268)), (1, .int (xJ x))]) hx hb dX11_hung_15 rfl hl (by decide) rfl (fun ls hl => ?_)
    refine x_iconst hx hb dX11_hung_16 ?_
    refine lv_istore (lv' := [(4, .int (xJ 0)), (3, .int (xJ (-1))), (2, .int (xJ (-2))), (0, .ref (h0 + 268)), (1, .int (xJ x))]) hx hb dX11_hung_17 hl (by decide) rfl (fun ls hl => ?_)
    have L19 : ∀ (fu : Nat) (i2_19 : Int) (i3_19 : Int) (i4_19 : Int) (s_19 : xS) (H : Heap) (locs : List Loc) (ls : Array Slot), (xR i2_19) → (xR i3_19) → (xR i4_19) → (xFr (fun k => k = 295) s0 s_19) → (s_19 269 34 = 0) → (s_19 269 35 = 0) → (s_19 272 = fun _ => 0) → (s_19 273 = fun _ => (-1)) → (s_19 295 = fun _ => 0) → ((i4_19 = 0 ∧ i3_19 = -1 ∧ i2_19 = -2) ∨ (0 < i4_19 ∧ i3_19 = 0 ∧ i2_19 = 0)) → (i4_19 ≤ 100) → (100 - i4_19).toNat < fu → xW D g h0 s H locs s_19 → lv_has ls 7 [(0, .ref (h0 + 268)), (1, .int (xJ x)), (2, .int (xJ i2_19)), (3, .int (xJ i3_19)), (4, .int (xJ i4_19))] → W p l e { frames := 3, cells := 0, slots := 0, locals := 64 } s m args below meth c H locs 0 0 Q (F0 m 19 ls []) := by
      intro fu
      induction fu with
      | zero => intro i2_19 i3_19 i4_19 s_19 H locs ls ri2_19 ri3_19 ri4_19 hF_19 q19_0 q19_1 q19_2 q19_3 q19_4 v19_0 v19_1 hm; exact absurd hm (Nat.not_lt_zero _)
      | succ fu ih19 =>
        intro i2_19 i3_19 i4_19 s_19 H locs ls ri2_19 ri3_19 ri4_19 hF_19 q19_0 q19_1 q19_2 q19_3 q19_4 v19_0 v19_1 hm hW hl
        refine x_iload hx hb hl 4 rfl dX11_hung_19 ?_
        refine x_bipush hx hb dX11_hung_21 (by decide) ?_
        refine x_icmp_ge (tgt := 138) hx hb ri4_19 (by decide) dX11_hung_23 (by decide) (fun c5 => ?_) (fun c5 => ?_)
        · skip
          refine x_iload_n hx hb hl 1 rfl dX11_hung_138 rfl ?_
          refine x_if_eq (tgt := 148) hx hb rx dX11_hung_139 (by decide) (fun c6 => ?_) (fun c6 => ?_)
          · skip
            refine x_iload_n hx hb hl 2 rfl dX11_hung_148 rfl ?_
            refine lv_goto (tgt := 153) hx hb dX11_hung_149 (by decide) ?_
            rw [eQ]
            exact x_iret hx hb hr hlk hW ri2_19 ⟨hF_19, by omega⟩ dX11_hung_153
          refine x_iload_n hx hb hl 2 rfl dX11_hung_142 rfl ?_
          refine x_bipush hx hb dX11_hung_143 (by decide) ?_
          refine x_icmp_ne (tgt := 152) hx hb ri2_19 (by decide) dX11_hung_145 (by decide) (fun c7 => ?_) (fun c7 => ?_)
          · skip
            refine x_iload_n hx hb hl 3 rfl dX11_hung_152 rfl ?_
            rw [eQ]
            exact x_iret hx hb hr hlk hW ri3_19 ⟨hF_19, by omega⟩ dX11_hung_153
          refine x_iload_n hx hb hl 2 rfl dX11_hung_148 rfl ?_
          refine lv_goto (tgt := 153) hx hb dX11_hung_149 (by decide) ?_
          rw [eQ]
          exact x_iret hx hb hr hlk hW ri2_19 ⟨hF_19, by omega⟩ dX11_hung_153
        refine x_aload_n hx hb hl 0 rfl dX11_hung_26 rfl ?_
        refine x_iload hx hb hl 4 rfl dX11_hung_27 ?_
        refine x_goi (x_runV (As := [.int (xJ i4_19)]) hx hb hml hown hT hE hW hl.1 (Or.inl (by decide)) (so_268 h0 g _) rfl cf_X11_isFree wq1708 wq158 wq1706 (c_X11_isFree l D g T h0 s_19 hW.2.1 i4_19 ri4_19 (by omega) q19_0 q19_1 q19_2 q19_3) ⟨rfl, rfl, ⟨by decide, by decide⟩, ⟨by decide, by decide⟩⟩ rfl rfl (Nat.le_of_ble_eq_true rfl) dX11_hung_29) hW (fun x8 s9 H locs rx8 hp10 hW => ?_)
        obtain ⟨es9, hp10⟩ := hp10
        subst es9
        have ghp10 := hp10
        refine x_if_ne (tgt := 38) hx hb rx8 dX11_hung_32 (by decide) (fun c11 => ?_) (fun c11 => False.elim (by omega))
        refine x_aload_n hx hb hl 0 rfl dX11_hung_38 rfl ?_
        refine x_gov (x_runV (As := []) hx hb hml hown hT hE hW hl.1 (Or.inl (by decide)) (so_268 h0 g _) rfl cf_X11_bares wq1592 wq140 wq1590 (c_X11_bares l D g T h0 s_19 hW.2.1 q19_4) ⟨rfl, rfl, ⟨by decide, by decide⟩, ⟨by decide, by decide⟩⟩ rfl rfl (Nat.le_of_ble_eq_true rfl) dX11_hung_39) hW (fun s13 H locs hp14 hW => ?_)
        obtain ⟨fs13, hp14⟩ := hp14
        have hF15 := hF_19.call fs13 (fun k h => by omega)
        have q16 : s13 269 34 = 0 := (congrFun (fs13 _ (by omega)) _).trans q19_0
        have q17 : s13 269 35 = 0 := (congrFun (fs13 _ (by omega)) _).trans q19_1
        have q18 : s13 272 = fun _ => 0 := (fs13 _ (by omega)).trans q19_2
        have q19 : s13 273 = fun _ => (-1) := (fs13 _ (by omega)).trans q19_3
        have ghp14 := hp14.2
        refine x_aload_n hx hb hl 0 rfl dX11_hung_42 rfl ?_
        refine x_gov (x_runV (As := []) hx hb hml hown hT hE hW hl.1 (Or.inl (by decide)) (so_268 h0 g _) rfl cf_X11_fallsByLamps wq1608 wq144 wq1606 (c_X11_fallsByLamps l D g T h0 s13 hW.2.1 q19) ⟨rfl, rfl, ⟨by decide, by decide⟩, ⟨by decide, by decide⟩⟩ rfl rfl (Nat.le_of_ble_eq_true rfl) dX11_hung_43) hW (fun s21 H locs hp22 hW => ?_)
        obtain ⟨es21, hp22⟩ := hp22
        subst es21
        have ghp22 := hp22
        refine x_iconst hx hb dX11_hung_46 ?_
        refine lv_istore (lv' := [(5, .int (xJ 0)), (0, .ref (h0 + 268)), (1, .int (xJ x)), (2, .int (xJ i2_19)), (3, .int (xJ i3_19)), (4, .int (xJ i4_19))]) hx hb dX11_hung_47 hl (by decide) rfl (fun ls hl => ?_)
        have L49 : ∀ (fu : Nat) (i5_49 : Int) (H : Heap) (locs : List Loc) (ls : Array Slot), (xR i5_49) → (0 ≤ i5_49) → (2 - i5_49).toNat < fu → xW D g h0 s H locs s13 → lv_has ls 7 [(0, .ref (h0 + 268)), (1, .int (xJ x)), (2, .int (xJ i2_19)), (3, .int (xJ i3_19)), (4, .int (xJ i4_19)), (5, .int (xJ i5_49))] → W p l e { frames := 3, cells := 0, slots := 0, locals := 64 } s m args below meth c H locs 0 0 Q (F0 m 49 ls []) := by
          intro fu
          induction fu with
          | zero => intro i5_49 H locs ls ri5_49 v49_0 hm; exact absurd hm (Nat.not_lt_zero _)
          | succ fu ih49 =>
            intro i5_49 H locs ls ri5_49 v49_0 hm hW hl
            refine x_iload hx hb hl 5 rfl dX11_hung_49 ?_
            refine x_iconst hx hb dX11_hung_51 ?_
            refine x_icmp_ge (tgt := 78) hx hb ri5_49 (by decide) dX11_hung_52 (by decide) (fun c23 => ?_) (fun c23 => ?_)
            · skip
              refine x_iconst hx hb dX11_hung_78 ?_
              refine lv_istore (lv' := [(5, .int (xJ 0)), (0, .ref (h0 + 268)), (1, .int (xJ x)), (2, .int (xJ i2_19)), (3, .int (xJ i3_19)), (4, .int (xJ i4_19))]) hx hb dX11_hung_79 hl (by decide) rfl (fun ls hl => ?_)
              refine x_iconst hx hb dX11_hung_81 ?_
              refine lv_istore (lv' := [(6, .int (xJ 0)), (5, .int (xJ 0)), (0, .ref (h0 + 268)), (1, .int (xJ x)), (2, .int (xJ i2_19)), (3, .int (xJ i3_19)), (4, .int (xJ i4_19))]) hx hb dX11_hung_82 hl (by decide) rfl (fun ls hl => ?_)
              have L84 : ∀ (fu : Nat) (i5_84 : Int) (i6_84 : Int) (ls : Array Slot), (xR i5_84) → (xR i6_84) → (0 ≤ i6_84) → (i5_84 = 0) → (100 - i6_84).toNat < fu → lv_has ls 7 [(0, .ref (h0 + 268)), (1, .int (xJ x)), (2, .int (xJ i2_19)), (3, .int (xJ i3_19)), (4, .int (xJ i4_19)), (5, .int (xJ i5_84)), (6, .int (xJ i6_84))] → W p l e { frames := 3, cells := 0, slots := 0, locals := 64 } s m args below meth c H locs 0 0 Q (F0 m 84 ls []) := by
                intro fu
                induction fu with
                | zero => intro i5_84 i6_84 ls ri5_84 ri6_84 v84_0 v84_1 hm; exact absurd hm (Nat.not_lt_zero _)
                | succ fu ih84 =>
                  intro i5_84 i6_84 ls ri5_84 ri6_84 v84_0 v84_1 hm  hl
                  refine x_iload hx hb hl 6 rfl dX11_hung_84 ?_
                  refine x_bipush hx hb dX11_hung_86 (by decide) ?_
                  refine x_icmp_ge (tgt := 117) hx hb ri6_84 (by decide) dX11_hung_88 (by decide) (fun c24 => ?_) (fun c24 => ?_)
                  · skip
                    refine x_iload hx hb hl 5 rfl dX11_hung_117 ?_
                    refine x_iload_n hx hb hl 3 rfl dX11_hung_119 rfl ?_
                    refine x_icmp_gt (tgt := 126) hx hb ri5_84 ri3_19 dX11_hung_120 (by decide) (fun c25 => ?_) (fun c25 => ?_)
                    · skip
                      refine x_iload hx hb hl 5 rfl dX11_hung_126 ?_
                      refine lv_istore_n (lv' := [(3, .int (xJ i5_84)), (0, .ref (h0 + 268)), (1, .int (xJ x)), (2, .int (xJ i2_19)), (4, .int (xJ i4_19)), (5, .int (xJ i5_84)), (6, .int (xJ i6_84))]) hx hb dX11_hung_128 rfl hl (by decide) rfl (fun ls hl => ?_)
                      refine x_iload hx hb hl 4 rfl dX11_hung_129 ?_
                      refine lv_istore_n (lv' := [(2, .int (xJ i4_19)), (3, .int (xJ i5_84)), (0, .ref (h0 + 268)), (1, .int (xJ x)), (4, .int (xJ i4_19)), (5, .int (xJ i5_84)), (6, .int (xJ i6_84))]) hx hb dX11_hung_131 rfl hl (by decide) rfl (fun ls hl => ?_)
                      refine x_iinc (lv' := [(4, .int (xJ (i4_19 + 1))), (2, .int (xJ i4_19)), (3, .int (xJ i5_84)), (0, .ref (h0 + 268)), (1, .int (xJ x)), (5, .int (xJ i5_84)), (6, .int (xJ i6_84))]) hx hb hl 4 rfl dX11_hung_132 (by decide) rfl (fun ls hl => ?_)
                      refine lv_goto (tgt := 19) hx hb dX11_hung_135 (by decide) ?_
                      exact ih19 i4_19 i5_84 (i4_19 + 1) s13 H locs ls ri4_19 ri5_84 (by omega) hF15 q16 q17 q18 q19 hp14.1.1 (by omega) (by omega) (by omega) hW (lv_sub hl [3, 4, 1, 2, 0] rfl)
                    refine lv_goto (tgt := 132) hx hb dX11_hung_123 (by decide) ?_
                    refine x_iinc (lv' := [(4, .int (xJ (i4_19 + 1))), (0, .ref (h0 + 268)), (1, .int (xJ x)), (2, .int (xJ i2_19)), (3, .int (xJ i3_19)), (5, .int (xJ i5_84)), (6, .int (xJ i6_84))]) hx hb hl 4 rfl dX11_hung_132 (by decide) rfl (fun ls hl => ?_)
                    refine lv_goto (tgt := 19) hx hb dX11_hung_135 (by decide) ?_
                    exact ih19 i2_19 i3_19 (i4_19 + 1) s13 H locs ls ri2_19 ri3_19 (by omega) hF15 q16 q17 q18 q19 hp14.1.1 (by omega) (by omega) (by omega) hW (lv_sub hl [1, 2, 3, 4, 0] rfl)
                  refine x_iload hx hb hl 5 rfl dX11_hung_91 ?_
                  refine x_aload_n hx hb hl 0 rfl dX11_hung_93 rfl ?_
                  refine x_get (j := 40) (v := .ref (h0 + 295)) hx hb hown hT hE hW cls_X11 (Or.inl (by decide)) (so_268 h0 g _) (by decide) rfl wq1225 dX11_hung_94 ?_
                  refine x_iload hx hb hl 6 rfl dX11_hung_97 ?_
                  refine x_iald hx hb hE hW (Or.inl (by decide)) (sa_295 h0 g _) (by omega) (by decide) dX11_hung_99 ?_
                  refine x_rd hW (fun x26 ex26 rx26 => ?_)
                  have fx26 : x26 = 0 := by rw [ex26, hp14.1.1]
                  refine x_if_le (tgt := 107) hx hb rx26 dX11_hung_100 (by decide) (fun c27 => ?_) (fun c27 => False.elim (by omega))
                  refine x_iconst hx hb dX11_hung_107 ?_
                  refine x_iadd hx hb dX11_hung_108 ?_
                  refine x_nm (fun x28 ex28 => ?_)
                  refine lv_istore (lv' := [(5, .int (xJ x28)), (0, .ref (h0 + 268)), (1, .int (xJ x)), (2, .int (xJ i2_19)), (3, .int (xJ i3_19)), (4, .int (xJ i4_19)), (6, .int (xJ i6_84))]) hx hb dX11_hung_109 hl (by decide) rfl (fun ls hl => ?_)
                  refine x_iinc (lv' := [(6, .int (xJ (i6_84 + 1))), (5, .int (xJ x28)), (0, .ref (h0 + 268)), (1, .int (xJ x)), (2, .int (xJ i2_19)), (3, .int (xJ i3_19)), (4, .int (xJ i4_19))]) hx hb hl 6 rfl dX11_hung_111 (by decide) rfl (fun ls hl => ?_)
                  refine lv_goto (tgt := 84) hx hb dX11_hung_114 (by decide) ?_
                  exact ih84 x28 (i6_84 + 1) ls (by omega) (by omega) (by omega) (by omega) (by omega)  (lv_sub hl [2, 3, 4, 5, 6, 1, 0] rfl)
              exact L84 ((100 - 0 : Int).toNat + 1) 0 0 ls (by decide) (by decide) (by omega) (by omega) (Nat.lt_succ_self _)  (lv_sub hl [2, 3, 4, 5, 6, 1, 0] rfl)
            refine x_aload_n hx hb hl 0 rfl dX11_hung_55 rfl ?_
            refine x_iload hx hb hl 5 rfl dX11_hung_56 ?_
            refine x_goi (x_runV (As := [.int (xJ i5_49)]) hx hb hml hown hT hE hW hl.1 (Or.inl (by decide)) (so_268 h0 g _) rfl cf_X11_isJudge wq1409 wq109 wq1407 (c_X11_isJudge l D g T h0 s13 hW.2.1 i5_49 ri5_49 q16) ⟨rfl, rfl, ⟨by decide, by decide⟩, ⟨by decide, by decide⟩⟩ rfl rfl (Nat.le_of_ble_eq_true rfl) dX11_hung_58) hW (fun x29 s30 H locs rx29 hp31 hW => ?_)
            obtain ⟨es30, hp31⟩ := hp31
            subst es30
            have ghp31 := hp31
            refine x_if_eq (tgt := 72) hx hb rx29 dX11_hung_61 (by decide) (fun c32 => ?_) (fun c32 => False.elim (by omega))
            refine x_iinc (lv' := [(5, .int (xJ (i5_49 + 1))), (0, .ref (h0 + 268)), (1, .int (xJ x)), (2, .int (xJ i2_19)), (3, .int (xJ i3_19)), (4, .int (xJ i4_19))]) hx hb hl 5 rfl dX11_hung_72 (by decide) rfl (fun ls hl => ?_)
            refine lv_goto (tgt := 49) hx hb dX11_hung_75 (by decide) ?_
            exact ih49 (i5_49 + 1) H locs ls (by omega) (by omega) (by omega) hW (lv_sub hl [1, 2, 3, 4, 5, 0] rfl)
        exact L49 ((2 - 0 : Int).toNat + 1) 0 H locs ls (by decide) (by omega) (Nat.lt_succ_self _) hW (lv_sub hl [1, 2, 3, 4, 5, 0] rfl)
    exact L19 ((100 - 0 : Int).toNat + 1) (-2) (-1) 0 s0 H locs ls (by decide) (by decide) (by decide) hF p0 p1 p2 p3 p4 (by omega) (by omega) (Nat.lt_succ_self _) hW (lv_sub hl [3, 4, 2, 1, 0] rfl)
  refine x_iconst hx hb dX11_hung_9 ?_
  rw [eQ]
  exact x_iret hx hb hr hlk hW (by decide) ⟨hF, by omega⟩ dX11_hung_10
set_option maxHeartbeats 4000000 in
set_option maxRecDepth 100000 in
theorem c_X11_servedFirst (l : Launch) (D : va_G) (g : xG) (T : Nat × Nat × Nat) (h0 : Nat) (s0 : xS) (hσ : xRR s0) (f : Int) (rf : xR f) (n : Int) (rn : xR n) (p0 : s0 269 34 = 0) (p1 : s0 269 35 = 0) (p2 : s0 269 36 = 0) (p3 : 0 ≤ s0 269 37 ∧ s0 269 37 ≤ 9999) (p4 : 0 ≤ s0 269 38 ∧ s0 269 38 ≤ 65535) (p5 : s0 295 = fun _ => 0) (p6 : s0 268 17 = 0) (p7 : s0 273 = fun _ => (-1)) : Met l yX11_servedFirst (xws yX11_servedFirst cX11_servedFirst 3 (some .int)) { frames := 6, cells := 0, slots := 0, locals := 133 } (xP [.ref (h0 + 268), .int (xJ f), .int (xJ n)] D g T h0 s0) (xQi D g h0 (fun r τ => xFr (fun k => k = 268 ∨ k = 269 ∨ k = 270 ∨ k = 294 ∨ k = 295 ∨ k = 299) s0 τ ∧ (((τ 269 34 = 0) ∧ (τ 269 35 = 0) ∧ (τ 269 36 = 0) ∧ (0 ≤ τ 269 37 ∧ τ 269 37 ≤ 9999) ∧ (0 ≤ τ 269 38 ∧ τ 269 38 ≤ 65535) ∧ True) ∧ (r = 0)))) 0 0 (xA h0) := by
  refine x_met hσ (by decide) (Nat.le_of_ble_eq_true rfl) ?_
  intro p e s m args below meth c hx hb hr hml hown hT hlk hnm hE hW ls hl
  have hl : lv_has ls 3 [(0, .ref (h0 + 268)), (1, .int (xJ f)), (2, .int (xJ n))] := hl
  obtain ⟨Q, eQ⟩ : ∃ Q, Q = MQ below (xQi D g h0 (fun r τ => xFr (fun k => k = 268 ∨ k = 269 ∨ k = 270 ∨ k = 294 ∨ k = 295 ∨ k = 299) s0 τ ∧ (((τ 269 34 = 0) ∧ (τ 269 35 = 0) ∧ (τ 269 36 = 0) ∧ (0 ≤ τ 269 37 ∧ τ 269 37 ≤ 9999) ∧ (0 ≤ τ 269 38 ∧ τ 269 38 ≤ 65535) ∧ True) ∧ (r = 0)))) args s 0 0 (xA h0) := ⟨_, rfl⟩
  rw [← eQ]
  generalize hHe : ([] : List Loc) = locs at hW ⊢
  obtain ⟨H, eH⟩ : ∃ H, H = s.heap := ⟨_, rfl⟩
  rw [← eH] at hW ⊢
  have hF : xFr (fun k => k = 268 ∨ k = 269 ∨ k = 270 ∨ k = 294 ∨ k = 295 ∨ k = 299) s0 s0 := xFr.rf
  refine x_aload_n hx hb hl 0 rfl dX11_servedFirst_0 rfl ?_
  refine x_get (j := 0) (v := .ref (h0 + 269)) hx hb hown hT hE hW cls_X11 (Or.inl (by decide)) (so_268 h0 g _) (by decide) rfl wq1185 dX11_servedFirst_1 ?_
  refine x_aload_n hx hb hl 0 rfl dX11_servedFirst_4 rfl ?_
  refine x_get (j := 1) (v := .ref (h0 + 270)) hx hb hown hT hE hW cls_X11 (Or.inl (by decide)) (so_268 h0 g _) (by decide) rfl wq1186 dX11_servedFirst_5 ?_
  refine x_gov (x_runS (As := [.ref (h0 + 269), .ref (h0 + 270)]) hx hb hml hown hT hE hW hl.1 cf_X11_copies wq1647 wq1646 (c_X11_copiesA l D g T h0 s0 hW.2.1 p0 p1 p2 p3 p4) ⟨rfl, rfl, ⟨by decide, by decide⟩, ⟨by decide, by decide⟩⟩ rfl rfl (Nat.le_of_ble_eq_true rfl) dX11_servedFirst_8) hW (fun s2 H locs hp3 hW => ?_)
  obtain ⟨fs2, hp3⟩ := hp3
  have hF4 := hF.call fs2 (fun k h => by omega)
  have q5 : s2 269 34 = 0 := (congrFun (fs2 _ (by omega)) _).trans p0
  have q6 : s2 269 35 = 0 := (congrFun (fs2 _ (by omega)) _).trans p1
  have q7 : s2 269 36 = 0 := (congrFun (fs2 _ (by omega)) _).trans p2
  have q8 : 0 ≤ s2 269 37 ∧ s2 269 37 ≤ 9999 := by rw [fs2 269 (by omega)]; exact p3
  have q9 : 0 ≤ s2 269 38 ∧ s2 269 38 ≤ 65535 := by rw [fs2 269 (by omega)]; exact p4
  have q10 : s2 295 = fun _ => 0 := (fs2 _ (by omega)).trans p5
  have q11 : s2 268 17 = 0 := (congrFun (fs2 _ (by omega)) _).trans p6
  have q12 : s2 273 = fun _ => (-1) := (fs2 _ (by omega)).trans p7
  have ghp3 := hp3.2
  refine x_aload_n hx hb hl 0 rfl dX11_servedFirst_11 rfl ?_
  refine x_iload_n hx hb hl 1 rfl dX11_servedFirst_12 rfl ?_
  refine x_put (j := 48) hx hb hown hT hE hW cls_X11 (by decide) (fun σ => so_268 h0 g σ) (by decide) (st_X11_48 h0 s2 268 f) (ln_X11_48 h0 _ _) wq1233 rfl rfl rfl rf dX11_servedFirst_13 (fun H locs s13 es13 hW => ?_)
  have q14 : s13 269 34 = 0 := by rw [es13, xU_k _ _ _ (by omega)]; exact q5
  have q15 : s13 269 35 = 0 := by rw [es13, xU_k _ _ _ (by omega)]; exact q6
  have q16 : s13 269 36 = 0 := by rw [es13, xU_k _ _ _ (by omega)]; exact q7
  have q17 : 0 ≤ s13 269 37 ∧ s13 269 37 ≤ 9999 := by rw [es13, xU_k _ _ _ (by omega)]; exact q8
  have q18 : 0 ≤ s13 269 38 ∧ s13 269 38 ≤ 65535 := by rw [es13, xU_k _ _ _ (by omega)]; exact q9
  have q19 : s13 295 = fun _ => 0 := by rw [es13, xU_k _ _ _ (by omega)]; exact q10
  have q20 : s13 268 17 = 0 := by rw [es13, xU_j _ _ (by decide)]; exact q11
  have q21 : s13 273 = fun _ => (-1) := by rw [es13, xU_k _ _ _ (by omega)]; exact q12
  have q22 : s13 270 34 = 0 := by rw [es13, xU_k _ _ _ (by omega)]; exact hp3.1.1
  have q23 : s13 270 35 = 0 := by rw [es13, xU_k _ _ _ (by omega)]; exact hp3.1.2.1
  have q24 : s13 270 36 = 0 := by rw [es13, xU_k _ _ _ (by omega)]; exact hp3.1.2.2.1
  have q25 : 0 ≤ s13 270 37 ∧ s13 270 37 ≤ 9999 := by rw [es13, xU_k _ _ _ (by omega)]; exact hp3.1.2.2.2.1
  have q26 : 0 ≤ s13 270 38 ∧ s13 270 38 ≤ 65535 := by rw [es13, xU_k _ _ _ (by omega)]; exact hp3.1.2.2.2.2.1
  have hF27 := hF4.put es13 (by omega)
  refine x_aload_n hx hb hl 0 rfl dX11_servedFirst_16 rfl ?_
  refine x_iload_n hx hb hl 2 rfl dX11_servedFirst_17 rfl ?_
  refine x_gov (x_runV (As := [.int (xJ n)]) hx hb hml hown hT hE hW hl.1 (Or.inl (by decide)) (so_268 h0 g _) rfl cf_X11_minutesGo wq1539 wq130 wq1537 (c_X11_minutesGo l D g T h0 s13 hW.2.1 n rn q14 q15 q16 q17 q18 q19 q20 q21) ⟨rfl, rfl, ⟨by decide, by decide⟩, ⟨by decide, by decide⟩⟩ rfl rfl (Nat.le_of_ble_eq_true rfl) dX11_servedFirst_18) hW (fun s29 H locs hp30 hW => ?_)
  obtain ⟨fs29, hp30⟩ := hp30
  have hF31 := hF27.call fs29 (fun k h => by omega)
  have q32 : s29 273 = fun _ => (-1) := (fs29 _ (by omega)).trans q21
  have q33 : s29 270 34 = 0 := (congrFun (fs29 _ (by omega)) _).trans q22
  have q34 : s29 270 35 = 0 := (congrFun (fs29 _ (by omega)) _).trans q23
  have q35 : s29 270 36 = 0 := (congrFun (fs29 _ (by omega)) _).trans q24
  have q36 : 0 ≤ s29 270 37 ∧ s29 270 37 ≤ 9999 := by rw [fs29 270 (by omega)]; exact q25
  have q37 : 0 ≤ s29 270 38 ∧ s29 270 38 ≤ 65535 := by rw [fs29 270 (by omega)]; exact q26
  have ghp30 := hp30.2
  refine x_aload_n hx hb hl 0 rfl dX11_servedFirst_21 rfl ?_
  refine x_iconst hx hb dX11_servedFirst_22 ?_
  refine x_put (j := 48) hx hb hown hT hE hW cls_X11 (by decide) (fun σ => so_268 h0 g σ) (by decide) (st_X11_48 h0 s29 268 (-1)) (ln_X11_48 h0 _ _) wq1233 rfl rfl rfl (by decide) dX11_servedFirst_23 (fun H locs s38 es38 hW => ?_)
  have q39 : s38 273 = fun _ => (-1) := by rw [es38, xU_k _ _ _ (by omega)]; exact q32
  have q40 : s38 270 34 = 0 := by rw [es38, xU_k _ _ _ (by omega)]; exact q33
  have q41 : s38 270 35 = 0 := by rw [es38, xU_k _ _ _ (by omega)]; exact q34
  have q42 : s38 270 36 = 0 := by rw [es38, xU_k _ _ _ (by omega)]; exact q35
  have q43 : 0 ≤ s38 270 37 ∧ s38 270 37 ≤ 9999 := by rw [es38, xU_k _ _ _ (by omega)]; exact q36
  have q44 : 0 ≤ s38 270 38 ∧ s38 270 38 ≤ 65535 := by rw [es38, xU_k _ _ _ (by omega)]; exact q37
  have q45 : s38 269 34 = 0 := by rw [es38, xU_k _ _ _ (by omega)]; exact hp30.1.1
  have q46 : s38 269 35 = 0 := by rw [es38, xU_k _ _ _ (by omega)]; exact hp30.1.2.1
  have q47 : s38 269 36 = 0 := by rw [es38, xU_k _ _ _ (by omega)]; exact hp30.1.2.2.1
  have q48 : 0 ≤ s38 269 37 ∧ s38 269 37 ≤ 9999 := by rw [es38, xU_k _ _ _ (by omega)]; exact hp30.1.2.2.2.1
  have q49 : 0 ≤ s38 269 38 ∧ s38 269 38 ≤ 65535 := by rw [es38, xU_k _ _ _ (by omega)]; exact hp30.1.2.2.2.2.1
  have q50 : s38 268 41 = 0 := by rw [es38, xU_j _ _ (by decide)]; exact hp30.1.2.2.2.2.2.1
  have q51 : s38 268 42 = 0 := by rw [es38, xU_j _ _ (by decide)]; exact hp30.1.2.2.2.2.2.2.1
  have q52 : s38 268 43 = 0 := by rw [es38, xU_j _ _ (by decide)]; exact hp30.1.2.2.2.2.2.2.2.1
  have q53 : s38 268 44 = 0 := by rw [es38, xU_j _ _ (by decide)]; exact hp30.1.2.2.2.2.2.2.2.2.1
  have q54 : s38 295 = fun _ => 0 := by rw [es38, xU_k _ _ _ (by omega)]; exact hp30.1.2.2.2.2.2.2.2.2.2.1
  have q55 : s38 268 17 = 0 := by rw [es38, xU_j _ _ (by decide)]; exact hp30.1.2.2.2.2.2.2.2.2.2.2.1
  have hF56 := hF31.put es38 (by omega)
  refine x_aload_n hx hb hl 0 rfl dX11_servedFirst_26 rfl ?_
  refine x_get (j := 1) (v := .ref (h0 + 270)) hx hb hown hT hE hW cls_X11 (Or.inl (by decide)) (so_268 h0 g _) (by decide) rfl wq1186 dX11_servedFirst_27 ?_
  refine x_aload_n hx hb hl 0 rfl dX11_servedFirst_30 rfl ?_
  refine x_get (j := 0) (v := .ref (h0 + 269)) hx hb hown hT hE hW cls_X11 (Or.inl (by decide)) (so_268 h0 g _) (by decide) rfl wq1185 dX11_servedFirst_31 ?_
  refine x_gov (x_runS (As := [.ref (h0 + 270), .ref (h0 + 269)]) hx hb hml hown hT hE hW hl.1 cf_X11_copies wq1647 wq1646 (c_X11_copiesB l D g T h0 s38 hW.2.1 q40 q41 q42 q43 q44) ⟨rfl, rfl, ⟨by decide, by decide⟩, ⟨by decide, by decide⟩⟩ rfl rfl (Nat.le_of_ble_eq_true rfl) dX11_servedFirst_34) hW (fun s58 H locs hp59 hW => ?_)
  obtain ⟨fs58, hp59⟩ := hp59
  have hF60 := hF56.call fs58 (fun k h => by omega)
  have q61 : s58 273 = fun _ => (-1) := (fs58 _ (by omega)).trans q39
  have q62 : s58 270 34 = 0 := (congrFun (fs58 _ (by omega)) _).trans q40
  have q63 : s58 270 35 = 0 := (congrFun (fs58 _ (by omega)) _).trans q41
  have q64 : s58 270 36 = 0 := (congrFun (fs58 _ (by omega)) _).trans q42
  have q65 : 0 ≤ s58 270 37 ∧ s58 270 37 ≤ 9999 := by rw [fs58 270 (by omega)]; exact q43
  have q66 : 0 ≤ s58 270 38 ∧ s58 270 38 ≤ 65535 := by rw [fs58 270 (by omega)]; exact q44
  have q67 : s58 268 41 = 0 := (congrFun (fs58 _ (by omega)) _).trans q50
  have q68 : s58 268 42 = 0 := (congrFun (fs58 _ (by omega)) _).trans q51
  have q69 : s58 268 43 = 0 := (congrFun (fs58 _ (by omega)) _).trans q52
  have q70 : s58 268 44 = 0 := (congrFun (fs58 _ (by omega)) _).trans q53
  have q71 : s58 295 = fun _ => 0 := (fs58 _ (by omega)).trans q54
  have q72 : s58 268 17 = 0 := (congrFun (fs58 _ (by omega)) _).trans q55
  have ghp59 := hp59.2
  refine x_aload_n hx hb hl 0 rfl dX11_servedFirst_37 rfl ?_
  refine x_get (j := 41) (v := .int (xJ (s58 268 41))) hx hb hown hT hE hW cls_X11 (Or.inl (by decide)) (so_268 h0 g _) (by decide) rfl wq1226 dX11_servedFirst_38 ?_
  refine x_rd hW (fun x73 ex73 rx73 => ?_)
  have fx73 : x73 = 0 := by rw [ex73, q67]
  rw [eQ]
  exact x_iret hx hb hr hlk hW rx73 ⟨hF60, ⟨hp59.1.1, hp59.1.2.1, hp59.1.2.2.1, hp59.1.2.2.2.1, hp59.1.2.2.2.2.1, trivial⟩, by omega⟩ dX11_servedFirst_41
set_option maxHeartbeats 4000000 in
set_option maxRecDepth 100000 in
theorem c_X11_first (l : Launch) (D : va_G) (g : xG) (T : Nat × Nat × Nat) (h0 : Nat) (s0 : xS) (hσ : xRR s0) (n : Int) (rn : xR n) (x : Int) (rx : xR x) (p0 : s0 269 34 = 0) (p1 : s0 269 35 = 0) (p2 : s0 269 36 = 0) (p3 : 0 ≤ s0 269 37 ∧ s0 269 37 ≤ 9999) (p4 : 0 ≤ s0 269 38 ∧ s0 269 38 ≤ 65535) (p5 : s0 295 = fun _ => 0) (p6 : s0 268 17 = 0) (p7 : s0 273 = fun _ => (-1)) : Met l yX11_first (xws yX11_first cX11_first 7 (some .int)) { frames := 7, cells := 0, slots := 0, locals := 155 } (xP [.ref (h0 + 268), .int (xJ n), .int (xJ x)] D g T h0 s0) (xQi D g h0 (fun r τ => xFr (fun k => k = 268 ∨ k = 269 ∨ k = 270 ∨ k = 294 ∨ k = 295 ∨ k = 299) s0 τ ∧ ((1 ≤ n ∧ n ≤ 60 ∧ ((x = 0 ∧ r = -2) ∨ (x = 1 ∧ r = 0))) ∨ (r = -1 ∧ ¬ (1 ≤ n ∧ n ≤ 60 ∧ 0 ≤ x ∧ x ≤ 1))))) 0 0 (xA h0) := by
  refine x_met hσ (by decide) (Nat.le_of_ble_eq_true rfl) ?_
  intro p e s m args below meth c hx hb hr hml hown hT hlk hnm hE hW ls hl
  have hl : lv_has ls 7 [(0, .ref (h0 + 268)), (1, .int (xJ n)), (2, .int (xJ x))] := hl
  obtain ⟨Q, eQ⟩ : ∃ Q, Q = MQ below (xQi D g h0 (fun r τ => xFr (fun k => k = 268 ∨ k = 269 ∨ k = 270 ∨ k = 294 ∨ k = 295 ∨ k = 299) s0 τ ∧ ((1 ≤ n ∧ n ≤ 60 ∧ ((x = 0 ∧ r = -2) ∨ (x = 1 ∧ r = 0))) ∨ (r = -1 ∧ ¬ (1 ≤ n ∧ n ≤ 60 ∧ 0 ≤ x ∧ x ≤ 1))))) args s 0 0 (xA h0) := ⟨_, rfl⟩
  rw [← eQ]
  generalize hHe : ([] : List Loc) = locs at hW ⊢
  obtain ⟨H, eH⟩ : ∃ H, H = s.heap := ⟨_, rfl⟩
  rw [← eH] at hW ⊢
  have hF : xFr (fun k => k = 268 ∨ k = 269 ∨ k = 270 ∨ k = 294 ∨ k = 295 ∨ k = 299) s0 s0 := xFr.rf
  refine x_iload_n hx hb hl 1 rfl dX11_first_0 rfl ?_
  refine x_iconst hx hb dX11_first_1 ?_
  refine x_bipush hx hb dX11_first_2 (by decide) ?_
  refine x_goi (x_runS (As := [.int (xJ n), .int (xJ 1), .int (xJ 60)]) hx hb hml hown hT hE hW hl.1 cf_X11_in wq1383 wq1382 (c_X11_in l D g T h0 s0 hW.2.1 n rn 1 (by decide) 60 (by decide)) ⟨rfl, rfl, ⟨by decide, by decide⟩, ⟨by decide, by decide⟩⟩ rfl rfl (Nat.le_of_ble_eq_true rfl) dX11_first_4) hW (fun x1 s2 H locs rx1 hp3 hW => ?_)
  obtain ⟨es2, hp3⟩ := hp3
  subst es2
  have ghp3 := hp3
  refine x_if_eq (tgt := 19) hx hb rx1 dX11_first_7 (by decide) (fun c4 => ?_) (fun c4 => ?_)
  · skip
    refine x_iconst hx hb dX11_first_19 ?_
    rw [eQ]
    exact x_iret hx hb hr hlk hW (by decide) ⟨hF, by omega⟩ dX11_first_20
  refine x_iload_n hx hb hl 2 rfl dX11_first_10 rfl ?_
  refine x_iconst hx hb dX11_first_11 ?_
  refine x_iconst hx hb dX11_first_12 ?_
  refine x_goi (x_runS (As := [.int (xJ x), .int (xJ 0), .int (xJ 1)]) hx hb hml hown hT hE hW hl.1 cf_X11_in wq1383 wq1382 (c_X11_in l D g T h0 s0 hW.2.1 x rx 0 (by decide) 1 (by decide)) ⟨rfl, rfl, ⟨by decide, by decide⟩, ⟨by decide, by decide⟩⟩ rfl rfl (Nat.le_of_ble_eq_true rfl) dX11_first_13) hW (fun x5 s6 H locs rx5 hp7 hW => ?_)
  obtain ⟨es6, hp7⟩ := hp7
  subst es6
  have ghp7 := hp7
  refine x_if_ne (tgt := 21) hx hb rx5 dX11_first_16 (by decide) (fun c8 => ?_) (fun c8 => ?_)
  · skip
    refine x_bipush hx hb dX11_first_21 (by decide) ?_
    refine lv_istore_n (lv' := [(3, .int (xJ (-2))), (0, .ref (h0 + 268)), (1, .int (xJ n)), (2, .int (xJ x))]) hx hb dX11_first_23 rfl hl (by decide) rfl (fun ls hl => ?_)
    refine x_aload_n hx hb hl 1 rfl dX11_first_24 rfl ?_
    refine x_iconst hx hb dX11_first_25 ?_
    refine x_iload_n hx hb hl 2 rfl dX11_first_26 rfl ?_
    refine x_goi (x_runV (As := [.int (xJ (-1)), .int (xJ n)]) hx hb hml hown hT hE hW hl.1 (Or.inl (by decide)) (so_268 h0 g _) rfl cf_X11_servedFirst wq1716 wq159 wq1714 (c_X11_servedFirst l D g T h0 s0 hW.2.1 (-1) (by decide) n rn p0 p1 p2 p3 p4 p5 p6 p7) ⟨rfl, rfl, ⟨by decide, by decide⟩, ⟨by decide, by decide⟩⟩ rfl rfl (Nat.le_of_ble_eq_true rfl) dX11_first_27) hW (fun x9 s10 H locs rx9 hp11 hW => ?_)
    obtain ⟨fs10, hp11⟩ := hp11
    have hF12 := hF.call fs10 (fun k h => by omega)
    have q13 : s10 273 = fun _ => (-1) := (fs10 _ (by omega)).trans p7
    have ghp11 := hp11.2
    refine lv_istore (lv' := [(4, .int (xJ x9)), (3, .int (xJ (-2))), (0, .ref (h0 + 268)), (1, .int (xJ n)), (2, .int (xJ x))]) hx hb dX11_first_30 hl (by decide) rfl (fun ls hl => ?_)
    refine x_iconst hx hb dX11_first_32 ?_
    refine lv_istore (lv' := [(5, .int (xJ 0)), (4, .int (xJ x9)), (3, .int (xJ (-2))), (0, .ref (h0 + 268)), (1, .int (xJ n)), (2, .int (xJ x))]) hx hb dX11_first_33 hl (by decide) rfl (fun ls hl => ?_)
    have L35 : ∀ (fu : Nat) (i5_35 : Int) (H : Heap) (locs : List Loc) (ls : Array Slot), (xR i5_35) → (0 ≤ i5_35) → ((-2) = -2 ∧ x9 = 0) → (10 - i5_35).toNat < fu → xW D g h0 s H locs s10 → lv_has ls 7 [(0, .ref (h0 + 268)), (2, .int (xJ x)), (3, .int (xJ (-2))), (4, .int (xJ x9)), (5, .int (xJ i5_35))] → W p l e { frames := 7, cells := 0, slots := 0, locals := 155 } s m args below meth c H locs 0 0 Q (F0 m 35 ls []) := by
      intro fu
      induction fu with
      | zero => intro i5_35 H locs ls ri5_35 v35_0 v35_1 hm; exact absurd hm (Nat.not_lt_zero _)
      | succ fu ih35 =>
        intro i5_35 H locs ls ri5_35 v35_0 v35_1 hm hW hl
        refine x_iload hx hb hl 4 rfl dX11_first_35 ?_
        refine x_bipush hx hb dX11_first_37 (by decide) ?_
        refine x_icmp_ge (tgt := 86) hx hb ri5_35 (by decide) dX11_first_39 (by decide) (fun c14 => ?_) (fun c14 => ?_)
        · skip
          refine x_iload_n hx hb hl 1 rfl dX11_first_86 rfl ?_
          refine x_if_ne (tgt := 94) hx hb rx dX11_first_87 (by decide) (fun c15 => ?_) (fun c15 => ?_)
          · skip
            refine x_iload hx hb hl 3 rfl dX11_first_94 ?_
            rw [eQ]
            exact x_iret hx hb hr hlk hW rx9 ⟨hF12, by omega⟩ dX11_first_96
          refine x_iload_n hx hb hl 2 rfl dX11_first_90 rfl ?_
          refine lv_goto (tgt := 96) hx hb dX11_first_91 (by decide) ?_
          rw [eQ]
          exact x_iret hx hb hr hlk hW (by decide) ⟨hF12, by omega⟩ dX11_first_96
        refine x_aload_n hx hb hl 0 rfl dX11_first_42 rfl ?_
        refine x_iload hx hb hl 4 rfl dX11_first_43 ?_
        refine x_goi (x_runV (As := [.int (xJ i5_35)]) hx hb hml hown hT hE hW hl.1 (Or.inl (by decide)) (so_268 h0 g _) rfl cf_X11_owes wq1620 wq147 wq1618 (c_X11_owes l D g T h0 s10 hW.2.1 i5_35 ri5_35 hp11.1.2.1) ⟨rfl, rfl, ⟨by decide, by decide⟩, ⟨by decide, by decide⟩⟩ rfl rfl (Nat.le_of_ble_eq_true rfl) dX11_first_45) hW (fun x16 s17 H locs rx16 hp18 hW => ?_)
        obtain ⟨es17, hp18⟩ := hp18
        subst es17
        have ghp18 := hp18
        refine x_if_ne (tgt := 54) hx hb rx16 dX11_first_48 (by decide) (fun c19 => False.elim (by omega)) (fun c19 => ?_)
        refine lv_goto (tgt := 80) hx hb dX11_first_51 (by decide) ?_
        refine x_iinc (lv' := [(5, .int (xJ (i5_35 + 1))), (0, .ref (h0 + 268)), (2, .int (xJ x)), (3, .int (xJ (-2))), (4, .int (xJ x9))]) hx hb hl 4 rfl dX11_first_80 (by decide) rfl (fun ls hl => ?_)
        refine lv_goto (tgt := 35) hx hb dX11_first_83 (by decide) ?_
        exact ih35 (i5_35 + 1) H locs ls (by omega) (by omega) (by omega) (by omega) hW (lv_sub hl [1, 2, 3, 4, 0] rfl)
    exact L35 ((10 - 0 : Int).toNat + 1) 0 H locs ls (by decide) (by omega) (by omega) (Nat.lt_succ_self _) hW (lv_sub hl [3, 5, 2, 1, 0] rfl)
  refine x_iconst hx hb dX11_first_19 ?_
  rw [eQ]
  exact x_iret hx hb hr hlk hW (by decide) ⟨hF, by omega⟩ dX11_first_20
set_option maxHeartbeats 4000000 in
set_option maxRecDepth 100000 in
theorem c_X11_laysDark (l : Launch) (D : va_G) (g : xG) (T : Nat × Nat × Nat) (h0 : Nat) (s0 : xS) (hσ : xRR s0) (n : Int) (rn : xR n) (p0 : s0 269 34 = 0) (p1 : s0 269 35 = 0) (p2 : s0 269 36 = 0) (p3 : 0 ≤ s0 269 37 ∧ s0 269 37 ≤ 9999) (p4 : 0 ≤ s0 269 38 ∧ s0 269 38 ≤ 65535) (p5 : s0 295 = fun _ => 0) (p6 : s0 305 = fun _ => 0) : Met l yX11_laysDark (xws yX11_laysDark cX11_laysDark 4 none) { frames := 3, cells := 0, slots := 0, locals := 64 } (xP [.ref (h0 + 268), .int (xJ n)] D g T h0 s0) (xQv D g h0 (fun τ => xFr (fun k => k = 269 ∨ k = 270 ∨ k = 295 ∨ k = 305) s0 τ ∧ (((τ 305 = fun _ => 0) ∧ True) ∧ (True)))) 0 0 (xA h0) := by
  refine x_met hσ (by decide) (Nat.le_of_ble_eq_true rfl) ?_
  intro p e s m args below meth c hx hb hr hml hown hT hlk hnm hE hW ls hl
  have hl : lv_has ls 4 [(0, .ref (h0 + 268)), (1, .int (xJ n))] := hl
  obtain ⟨Q, eQ⟩ : ∃ Q, Q = MQ below (xQv D g h0 (fun τ => xFr (fun k => k = 269 ∨ k = 270 ∨ k = 295 ∨ k = 305) s0 τ ∧ (((τ 305 = fun _ => 0) ∧ True) ∧ (True)))) args s 0 0 (xA h0) := ⟨_, rfl⟩
  rw [← eQ]
  generalize hHe : ([] : List Loc) = locs at hW ⊢
  obtain ⟨H, eH⟩ : ∃ H, H = s.heap := ⟨_, rfl⟩
  rw [← eH] at hW ⊢
  have hF : xFr (fun k => k = 269 ∨ k = 270 ∨ k = 295 ∨ k = 305) s0 s0 := xFr.rf
  refine x_iconst hx hb dX11_laysDark_0 ?_
  refine lv_istore_n (lv' := [(2, .int (xJ 0)), (0, .ref (h0 + 268)), (1, .int (xJ n))]) hx hb dX11_laysDark_1 rfl hl (by decide) rfl (fun ls hl => ?_)
  have L2 : ∀ (fu : Nat) (i2_2 : Int) (s_2 : xS) (H : Heap) (locs : List Loc) (ls : Array Slot), (xR i2_2) → (xFr (fun k => k = 269 ∨ k = 270 ∨ k = 295 ∨ k = 305) s0 s_2) → (s_2 269 34 = 0) → (s_2 269 35 = 0) → (s_2 269 36 = 0) → (0 ≤ s_2 269 37 ∧ s_2 269 37 ≤ 9999) → (0 ≤ s_2 269 38 ∧ s_2 269 38 ≤ 65535) → (s_2 295 = fun _ => 0) → (s_2 305 = fun _ => 0) → (0 ≤ i2_2) → (100 - i2_2).toNat < fu → xW D g h0 s H locs s_2 → lv_has ls 4 [(0, .ref (h0 + 268)), (1, .int (xJ n)), (2, .int (xJ i2_2))] → W p l e { frames := 3, cells := 0, slots := 0, locals := 64 } s m args below meth c H locs 0 0 Q (F0 m 2 ls []) := by
    intro fu
    induction fu with
    | zero => intro i2_2 s_2 H locs ls ri2_2 hF_2 q2_0 q2_1 q2_2 q2_3 q2_4 q2_5 q2_6 v2_0 hm; exact absurd hm (Nat.not_lt_zero _)
    | succ fu ih2 =>
      intro i2_2 s_2 H locs ls ri2_2 hF_2 q2_0 q2_1 q2_2 q2_3 q2_4 q2_5 q2_6 v2_0 hm hW hl
      refine x_iload_n hx hb hl 2 rfl dX11_laysDark_2 rfl ?_
      refine x_bipush hx hb dX11_laysDark_3 (by decide) ?_
      refine x_icmp_ge (tgt := 21) hx hb ri2_2 (by decide) dX11_laysDark_5 (by decide) (fun c1 => ?_) (fun c1 => ?_)
      · skip
        refine x_aload_n hx hb hl 0 rfl dX11_laysDark_21 rfl ?_
        refine x_get (j := 0) (v := .ref (h0 + 269)) hx hb hown hT hE hW cls_X11 (Or.inl (by decide)) (so_268 h0 g _) (by decide) rfl wq1185 dX11_laysDark_22 ?_
        refine x_aload_n hx hb hl 0 rfl dX11_laysDark_25 rfl ?_
        refine x_get (j := 1) (v := .ref (h0 + 270)) hx hb hown hT hE hW cls_X11 (Or.inl (by decide)) (so_268 h0 g _) (by decide) rfl wq1186 dX11_laysDark_26 ?_
        refine x_gov (x_runS (As := [.ref (h0 + 269), .ref (h0 + 270)]) hx hb hml hown hT hE hW hl.1 cf_X11_copies wq1647 wq1646 (c_X11_copiesA l D g T h0 s_2 hW.2.1 q2_0 q2_1 q2_2 q2_3 q2_4) ⟨rfl, rfl, ⟨by decide, by decide⟩, ⟨by decide, by decide⟩⟩ rfl rfl (Nat.le_of_ble_eq_true rfl) dX11_laysDark_29) hW (fun s3 H locs hp4 hW => ?_)
        obtain ⟨fs3, hp4⟩ := hp4
        have hF5 := hF_2.call fs3 (fun k h => by omega)
        have q6 : s3 269 34 = 0 := (congrFun (fs3 _ (by omega)) _).trans q2_0
        have q7 : s3 269 35 = 0 := (congrFun (fs3 _ (by omega)) _).trans q2_1
        have q8 : s3 269 36 = 0 := (congrFun (fs3 _ (by omega)) _).trans q2_2
        have q9 : 0 ≤ s3 269 37 ∧ s3 269 37 ≤ 9999 := by rw [fs3 269 (by omega)]; exact q2_3
        have q10 : 0 ≤ s3 269 38 ∧ s3 269 38 ≤ 65535 := by rw [fs3 269 (by omega)]; exact q2_4
        have q11 : s3 295 = fun _ => 0 := (fs3 _ (by omega)).trans q2_5
        have q12 : s3 305 = fun _ => 0 := (fs3 _ (by omega)).trans q2_6
        have ghp4 := hp4.2
        refine x_iconst hx hb dX11_laysDark_32 ?_
        refine lv_istore_n (lv' := [(2, .int (xJ 0)), (0, .ref (h0 + 268)), (1, .int (xJ n))]) hx hb dX11_laysDark_33 rfl hl (by decide) rfl (fun ls hl => ?_)
        have L34 : ∀ (fu : Nat) (i2_34 : Int) (s_34 : xS) (H : Heap) (locs : List Loc) (ls : Array Slot), (xR i2_34) → (xFr (fun k => k = 269 ∨ k = 270 ∨ k = 295 ∨ k = 305) s0 s_34) → (s_34 269 34 = 0) → (s_34 269 35 = 0) → (s_34 269 36 = 0) → (0 ≤ s_34 269 37 ∧ s_34 269 37 ≤ 9999) → (0 ≤ s_34 269 38 ∧ s_34 269 38 ≤ 65535) → (s_34 295 = fun _ => 0) → (s_34 305 = fun _ => 0) → (s_34 270 34 = 0) → (s_34 270 35 = 0) → (s_34 270 36 = 0) → (0 ≤ s_34 270 37 ∧ s_34 270 37 ≤ 9999) → (0 ≤ s_34 270 38 ∧ s_34 270 38 ≤ 65535) → (0 ≤ i2_34) → (n - i2_34).toNat < fu → xW D g h0 s H locs s_34 → lv_has ls 4 [(0, .ref (h0 + 268)), (1, .int (xJ n)), (2, .int (xJ i2_34))] → W p l e { frames := 3, cells := 0, slots := 0, locals := 64 } s m args below meth c H locs 0 0 Q (F0 m 34 ls []) := by
          intro fu
          induction fu with
          | zero => intro i2_34 s_34 H locs ls ri2_34 hF_34 q34_0 q34_1 q34_2 q34_3 q34_4 q34_5 q34_6 q34_7 q34_8 q34_9 q34_10 q34_11 v34_0 hm; exact absurd hm (Nat.not_lt_zero _)
          | succ fu ih34 =>
            intro i2_34 s_34 H locs ls ri2_34 hF_34 q34_0 q34_1 q34_2 q34_3 q34_4 q34_5 q34_6 q34_7 q34_8 q34_9 q34_10 q34_11 v34_0 hm hW hl
            refine x_iload_n hx hb hl 2 rfl dX11_laysDark_34 rfl ?_
            refine x_iload_n hx hb hl 1 rfl dX11_laysDark_35 rfl ?_
            refine x_icmp_ge (tgt := 135) hx hb ri2_34 rn dX11_laysDark_36 (by decide) (fun c13 => ?_) (fun c13 => ?_)
            · skip
              refine x_aload_n hx hb hl 0 rfl dX11_laysDark_135 rfl ?_
              refine x_get (j := 1) (v := .ref (h0 + 270)) hx hb hown hT hE hW cls_X11 (Or.inl (by decide)) (so_268 h0 g _) (by decide) rfl wq1186 dX11_laysDark_136 ?_
              refine x_aload_n hx hb hl 0 rfl dX11_laysDark_139 rfl ?_
              refine x_get (j := 0) (v := .ref (h0 + 269)) hx hb hown hT hE hW cls_X11 (Or.inl (by decide)) (so_268 h0 g _) (by decide) rfl wq1185 dX11_laysDark_140 ?_
              refine x_gov (x_runS (As := [.ref (h0 + 270), .ref (h0 + 269)]) hx hb hml hown hT hE hW hl.1 cf_X11_copies wq1647 wq1646 (c_X11_copiesB l D g T h0 s_34 hW.2.1 q34_7 q34_8 q34_9 q34_10 q34_11) ⟨rfl, rfl, ⟨by decide, by decide⟩, ⟨by decide, by decide⟩⟩ rfl rfl (Nat.le_of_ble_eq_true rfl) dX11_laysDark_143) hW (fun s15 H locs hp16 hW => ?_)
              obtain ⟨fs15, hp16⟩ := hp16
              have hF17 := hF_34.call fs15 (fun k h => by omega)
              have q18 : s15 295 = fun _ => 0 := (fs15 _ (by omega)).trans q34_5
              have q19 : s15 305 = fun _ => 0 := (fs15 _ (by omega)).trans q34_6
              have q20 : s15 270 34 = 0 := (congrFun (fs15 _ (by omega)) _).trans q34_7
              have q21 : s15 270 35 = 0 := (congrFun (fs15 _ (by omega)) _).trans q34_8
              have q22 : s15 270 36 = 0 := (congrFun (fs15 _ (by omega)) _).trans q34_9
              have q23 : 0 ≤ s15 270 37 ∧ s15 270 37 ≤ 9999 := by rw [fs15 270 (by omega)]; exact q34_10
              have q24 : 0 ≤ s15 270 38 ∧ s15 270 38 ≤ 65535 := by rw [fs15 270 (by omega)]; exact q34_11
              have ghp16 := hp16.2
              rw [eQ]
              exact x_vret hx hb hr hlk hW ⟨hF17, ⟨q19, trivial⟩, trivial⟩ dX11_laysDark_146
            refine x_aload_n hx hb hl 0 rfl dX11_laysDark_39 rfl ?_
            refine x_iconst hx hb dX11_laysDark_40 ?_
            refine x_gov (x_runV (As := [.int (xJ 0)]) hx hb hml hown hT hE hW hl.1 (Or.inl (by decide)) (so_268 h0 g _) rfl cf_X11_walksOn wq1547 wq132 wq1545 (c_X11_walksOn l D g T h0 s_34 hW.2.1 0 (by decide) q34_0) ⟨rfl, rfl, ⟨by decide, by decide⟩, ⟨by decide, by decide⟩⟩ rfl rfl (Nat.le_of_ble_eq_true rfl) dX11_laysDark_41) hW (fun s26 H locs hp27 hW => ?_)
            obtain ⟨es26, hp27⟩ := hp27
            subst es26
            have ghp27 := hp27
            refine x_aload_n hx hb hl 0 rfl dX11_laysDark_44 rfl ?_
            refine x_iconst hx hb dX11_laysDark_45 ?_
            refine x_gov (x_runV (As := [.int (xJ 1)]) hx hb hml hown hT hE hW hl.1 (Or.inl (by decide)) (so_268 h0 g _) rfl cf_X11_walksOn wq1547 wq132 wq1545 (c_X11_walksOn l D g T h0 s_34 hW.2.1 1 (by decide) q34_0) ⟨rfl, rfl, ⟨by decide, by decide⟩, ⟨by decide, by decide⟩⟩ rfl rfl (Nat.le_of_ble_eq_true rfl) dX11_laysDark_46) hW (fun s29 H locs hp30 hW => ?_)
            obtain ⟨es29, hp30⟩ := hp30
            subst es29
            have ghp30 := hp30
            refine x_aload_n hx hb hl 0 rfl dX11_laysDark_49 rfl ?_
            refine x_gov (x_runV (As := []) hx hb hml hown hT hE hW hl.1 (Or.inl (by decide)) (so_268 h0 g _) rfl cf_X11_bares wq1592 wq140 wq1590 (c_X11_bares l D g T h0 s_34 hW.2.1 q34_5) ⟨rfl, rfl, ⟨by decide, by decide⟩, ⟨by decide, by decide⟩⟩ rfl rfl (Nat.le_of_ble_eq_true rfl) dX11_laysDark_50) hW (fun s32 H locs hp33 hW => ?_)
            obtain ⟨fs32, hp33⟩ := hp33
            have hF34 := hF_34.call fs32 (fun k h => by omega)
            have q35 : s32 269 34 = 0 := (congrFun (fs32 _ (by omega)) _).trans q34_0
            have q36 : s32 269 35 = 0 := (congrFun (fs32 _ (by omega)) _).trans q34_1
            have q37 : s32 269 36 = 0 := (congrFun (fs32 _ (by omega)) _).trans q34_2
            have q38 : 0 ≤ s32 269 37 ∧ s32 269 37 ≤ 9999 := by rw [fs32 269 (by omega)]; exact q34_3
            have q39 : 0 ≤ s32 269 38 ∧ s32 269 38 ≤ 65535 := by rw [fs32 269 (by omega)]; exact q34_4
            have q40 : s32 305 = fun _ => 0 := (fs32 _ (by omega)).trans q34_6
            have q41 : s32 270 34 = 0 := (congrFun (fs32 _ (by omega)) _).trans q34_7
            have q42 : s32 270 35 = 0 := (congrFun (fs32 _ (by omega)) _).trans q34_8
            have q43 : s32 270 36 = 0 := (congrFun (fs32 _ (by omega)) _).trans q34_9
            have q44 : 0 ≤ s32 270 37 ∧ s32 270 37 ≤ 9999 := by rw [fs32 270 (by omega)]; exact q34_10
            have q45 : 0 ≤ s32 270 38 ∧ s32 270 38 ≤ 65535 := by rw [fs32 270 (by omega)]; exact q34_11
            have ghp33 := hp33.2
            refine x_iconst hx hb dX11_laysDark_53 ?_
            refine lv_istore_n (lv' := [(3, .int (xJ 0)), (0, .ref (h0 + 268)), (1, .int (xJ n)), (2, .int (xJ i2_34))]) hx hb dX11_laysDark_54 rfl hl (by decide) rfl (fun ls hl => ?_)
            have L55 : ∀ (fu : Nat) (i3_55 : Int) (H : Heap) (locs : List Loc) (ls : Array Slot), (xR i3_55) → (0 ≤ i3_55) → (2 - i3_55).toNat < fu → xW D g h0 s H locs s32 → lv_has ls 4 [(0, .ref (h0 + 268)), (1, .int (xJ n)), (2, .int (xJ i2_34)), (3, .int (xJ i3_55))] → W p l e { frames := 3, cells := 0, slots := 0, locals := 64 } s m args below meth c H locs 0 0 Q (F0 m 55 ls []) := by
              intro fu
              induction fu with
              | zero => intro i3_55 H locs ls ri3_55 v55_0 hm; exact absurd hm (Nat.not_lt_zero _)
              | succ fu ih55 =>
                intro i3_55 H locs ls ri3_55 v55_0 hm hW hl
                refine x_iload_n hx hb hl 3 rfl dX11_laysDark_55 rfl ?_
                refine x_iconst hx hb dX11_laysDark_56 ?_
                refine x_icmp_ge (tgt := 88) hx hb ri3_55 (by decide) dX11_laysDark_57 (by decide) (fun c46 => ?_) (fun c46 => ?_)
                · skip
                  refine x_iconst hx hb dX11_laysDark_88 ?_
                  refine lv_istore_n (lv' := [(3, .int (xJ 0)), (0, .ref (h0 + 268)), (1, .int (xJ n)), (2, .int (xJ i2_34))]) hx hb dX11_laysDark_89 rfl hl (by decide) rfl (fun ls hl => ?_)
                  have L90 : ∀ (fu : Nat) (i3_90 : Int) (s_90 : xS) (H : Heap) (locs : List Loc) (ls : Array Slot), (xR i3_90) → (xFr (fun k => k = 269 ∨ k = 270 ∨ k = 295 ∨ k = 305) s0 s_90) → (s_90 269 34 = 0) → (s_90 269 35 = 0) → (s_90 269 36 = 0) → (0 ≤ s_90 269 37 ∧ s_90 269 37 ≤ 9999) → (0 ≤ s_90 269 38 ∧ s_90 269 38 ≤ 65535) → (s_90 305 = fun _ => 0) → (s_90 270 34 = 0) → (s_90 270 35 = 0) → (s_90 270 36 = 0) → (0 ≤ s_90 270 37 ∧ s_90 270 37 ≤ 9999) → (0 ≤ s_90 270 38 ∧ s_90 270 38 ≤ 65535) → (s_90 295 = fun _ => 0) → (0 ≤ i3_90) → (100 - i3_90).toNat < fu → xW D g h0 s H locs s_90 → lv_has ls 4 [(0, .ref (h0 + 268)), (1, .int (xJ n)), (2, .int (xJ i2_34)), (3, .int (xJ i3_90))] → W p l e { frames := 3, cells := 0, slots := 0, locals := 64 } s m args below meth c H locs 0 0 Q (F0 m 90 ls []) := by
                    intro fu
                    induction fu with
                    | zero => intro i3_90 s_90 H locs ls ri3_90 hF_90 q90_0 q90_1 q90_2 q90_3 q90_4 q90_5 q90_6 q90_7 q90_8 q90_9 q90_10 q90_11 v90_0 hm; exact absurd hm (Nat.not_lt_zero _)
                    | succ fu ih90 =>
                      intro i3_90 s_90 H locs ls ri3_90 hF_90 q90_0 q90_1 q90_2 q90_3 q90_4 q90_5 q90_6 q90_7 q90_8 q90_9 q90_10 q90_11 v90_0 hm hW hl
                      refine x_iload_n hx hb hl 3 rfl dX11_laysDark_90 rfl ?_
                      refine x_bipush hx hb dX11_laysDark_91 (by decide) ?_
                      refine x_icmp_ge (tgt := 129) hx hb ri3_90 (by decide) dX11_laysDark_93 (by decide) (fun c47 => ?_) (fun c47 => ?_)
                      · skip
                        refine x_iinc (lv' := [(2, .int (xJ (i2_34 + 1))), (0, .ref (h0 + 268)), (1, .int (xJ n)), (3, .int (xJ i3_90))]) hx hb hl 2 rfl dX11_laysDark_129 (by decide) rfl (fun ls hl => ?_)
                        refine lv_goto (tgt := 34) hx hb dX11_laysDark_132 (by decide) ?_
                        exact ih34 (i2_34 + 1) s_90 H locs ls (by omega) hF_90 q90_0 q90_1 q90_2 q90_3 q90_4 q90_11 q90_5 q90_6 q90_7 q90_8 q90_9 q90_10 (by omega) (by omega) hW (lv_sub hl [1, 2, 0] rfl)
                      refine x_aload_n hx hb hl 0 rfl dX11_laysDark_96 rfl ?_
                      refine x_get (j := 55) (v := .ref (h0 + 305)) hx hb hown hT hE hW cls_X11 (Or.inl (by decide)) (so_268 h0 g _) (by decide) rfl wq1240 dX11_laysDark_97 ?_
                      refine x_iload_n hx hb hl 3 rfl dX11_laysDark_100 rfl ?_
                      refine x_aload_n hx hb hl 0 rfl dX11_laysDark_101 rfl ?_
                      refine x_get (j := 55) (v := .ref (h0 + 305)) hx hb hown hT hE hW cls_X11 (Or.inl (by decide)) (so_268 h0 g _) (by decide) rfl wq1240 dX11_laysDark_102 ?_
                      refine x_iload_n hx hb hl 3 rfl dX11_laysDark_105 rfl ?_
                      refine x_iald hx hb hE hW (Or.inl (by decide)) (sa_305 h0 g _) (by omega) (by decide) dX11_laysDark_106 ?_
                      refine x_rd hW (fun x48 ex48 rx48 => ?_)
                      have fx48 : x48 = 0 := by rw [ex48, q90_5]
                      refine x_aload_n hx hb hl 0 rfl dX11_laysDark_107 rfl ?_
                      refine x_get (j := 40) (v := .ref (h0 + 295)) hx hb hown hT hE hW cls_X11 (Or.inl (by decide)) (so_268 h0 g _) (by decide) rfl wq1225 dX11_laysDark_108 ?_
                      refine x_iload_n hx hb hl 3 rfl dX11_laysDark_111 rfl ?_
                      refine x_iald hx hb hE hW (Or.inl (by decide)) (sa_295 h0 g _) (by omega) (by decide) dX11_laysDark_112 ?_
                      refine x_rd hW (fun x49 ex49 rx49 => ?_)
                      have fx49 : x49 = 0 := by rw [ex49, q90_11]
                      refine x_if_le (tgt := 120) hx hb rx49 dX11_laysDark_113 (by decide) (fun c50 => ?_) (fun c50 => False.elim (by omega))
                      refine x_iconst hx hb dX11_laysDark_120 ?_
                      refine x_iadd hx hb dX11_laysDark_121 ?_
                      refine x_iast hx hb hE hW (by decide) (fun σ => sa_305 h0 g σ) (by omega) (by decide) (by omega) dX11_laysDark_122 (fun H locs s51 es51 hW => ?_)
                      have q52 : s51 269 34 = 0 := by rw [es51, xU_k _ _ _ (by omega)]; exact q90_0
                      have q53 : s51 269 35 = 0 := by rw [es51, xU_k _ _ _ (by omega)]; exact q90_1
                      have q54 : s51 269 36 = 0 := by rw [es51, xU_k _ _ _ (by omega)]; exact q90_2
                      have q55 : 0 ≤ s51 269 37 ∧ s51 269 37 ≤ 9999 := by rw [es51, xU_k _ _ _ (by omega)]; exact q90_3
                      have q56 : 0 ≤ s51 269 38 ∧ s51 269 38 ≤ 65535 := by rw [es51, xU_k _ _ _ (by omega)]; exact q90_4
                      have q57 : s51 305 = fun _ => 0 := by rw [es51, show (x48 + 0) = 0 from by omega]; exact xU_c q90_5
                      have q58 : s51 270 34 = 0 := by rw [es51, xU_k _ _ _ (by omega)]; exact q90_6
                      have q59 : s51 270 35 = 0 := by rw [es51, xU_k _ _ _ (by omega)]; exact q90_7
                      have q60 : s51 270 36 = 0 := by rw [es51, xU_k _ _ _ (by omega)]; exact q90_8
                      have q61 : 0 ≤ s51 270 37 ∧ s51 270 37 ≤ 9999 := by rw [es51, xU_k _ _ _ (by omega)]; exact q90_9
                      have q62 : 0 ≤ s51 270 38 ∧ s51 270 38 ≤ 65535 := by rw [es51, xU_k _ _ _ (by omega)]; exact q90_10
                      have q63 : s51 295 = fun _ => 0 := by rw [es51, xU_k _ _ _ (by omega)]; exact q90_11
                      have hF64 := hF_90.put es51 (by omega)
                      refine x_iinc (lv' := [(3, .int (xJ (i3_90 + 1))), (0, .ref (h0 + 268)), (1, .int (xJ n)), (2, .int (xJ i2_34))]) hx hb hl 3 rfl dX11_laysDark_123 (by decide) rfl (fun ls hl => ?_)
                      refine lv_goto (tgt := 90) hx hb dX11_laysDark_126 (by decide) ?_
                      exact ih90 (i3_90 + 1) s51 H locs ls (by omega) hF64 q52 q53 q54 q55 q56 q57 q58 q59 q60 q61 q62 q63 (by omega) (by omega) hW (lv_sub hl [1, 2, 3, 0] rfl)
                  exact L90 ((100 - 0 : Int).toNat + 1) 0 s32 H locs ls (by decide) hF34 q35 q36 q37 q38 q39 q40 q41 q42 q43 q44 q45 hp33.1.1 (by omega) (Nat.lt_succ_self _) hW (lv_sub hl [1, 2, 3, 0] rfl)
                refine x_aload_n hx hb hl 0 rfl dX11_laysDark_60 rfl ?_
                refine x_iload_n hx hb hl 3 rfl dX11_laysDark_61 rfl ?_
                refine x_goi (x_runV (As := [.int (xJ i3_55)]) hx hb hml hown hT hE hW hl.1 (Or.inl (by decide)) (so_268 h0 g _) rfl cf_X11_isJudge wq1409 wq109 wq1407 (c_X11_isJudge l D g T h0 s32 hW.2.1 i3_55 ri3_55 q35) ⟨rfl, rfl, ⟨by decide, by decide⟩, ⟨by decide, by decide⟩⟩ rfl rfl (Nat.le_of_ble_eq_true rfl) dX11_laysDark_62) hW (fun x65 s66 H locs rx65 hp67 hW => ?_)
                obtain ⟨es66, hp67⟩ := hp67
                subst es66
                have ghp67 := hp67
                refine x_if_eq (tgt := 82) hx hb rx65 dX11_laysDark_65 (by decide) (fun c68 => ?_) (fun c68 => False.elim (by omega))
                refine x_iinc (lv' := [(3, .int (xJ (i3_55 + 1))), (0, .ref (h0 + 268)), (1, .int (xJ n)), (2, .int (xJ i2_34))]) hx hb hl 3 rfl dX11_laysDark_82 (by decide) rfl (fun ls hl => ?_)
                refine lv_goto (tgt := 55) hx hb dX11_laysDark_85 (by decide) ?_
                exact ih55 (i3_55 + 1) H locs ls (by omega) (by omega) (by omega) hW (lv_sub hl [1, 2, 3, 0] rfl)
            exact L55 ((2 - 0 : Int).toNat + 1) 0 H locs ls (by decide) (by omega) (Nat.lt_succ_self _) hW (lv_sub hl [1, 2, 3, 0] rfl)
        exact L34 ((n - 0 : Int).toNat + 1) 0 s3 H locs ls (by decide) hF5 q6 q7 q8 q9 q10 q11 q12 hp4.1.1 hp4.1.2.1 hp4.1.2.2.1 hp4.1.2.2.2.1 hp4.1.2.2.2.2.1 (by omega) (Nat.lt_succ_self _) hW (lv_sub hl [1, 2, 0] rfl)
      refine x_aload_n hx hb hl 0 rfl dX11_laysDark_8 rfl ?_
      refine x_get (j := 55) (v := .ref (h0 + 305)) hx hb hown hT hE hW cls_X11 (Or.inl (by decide)) (so_268 h0 g _) (by decide) rfl wq1240 dX11_laysDark_9 ?_
      refine x_iload_n hx hb hl 2 rfl dX11_laysDark_12 rfl ?_
      refine x_iconst hx hb dX11_laysDark_13 ?_
      refine x_iast hx hb hE hW (by decide) (fun σ => sa_305 h0 g σ) (by omega) (by decide) (by decide) dX11_laysDark_14 (fun H locs s69 es69 hW => ?_)
      have q70 : s69 269 34 = 0 := by rw [es69, xU_k _ _ _ (by omega)]; exact q2_0
      have q71 : s69 269 35 = 0 := by rw [es69, xU_k _ _ _ (by omega)]; exact q2_1
      have q72 : s69 269 36 = 0 := by rw [es69, xU_k _ _ _ (by omega)]; exact q2_2
      have q73 : 0 ≤ s69 269 37 ∧ s69 269 37 ≤ 9999 := by rw [es69, xU_k _ _ _ (by omega)]; exact q2_3
      have q74 : 0 ≤ s69 269 38 ∧ s69 269 38 ≤ 65535 := by rw [es69, xU_k _ _ _ (by omega)]; exact q2_4
      have q75 : s69 295 = fun _ => 0 := by rw [es69, xU_k _ _ _ (by omega)]; exact q2_5
      have q76 : s69 305 = fun _ => 0 := by rw [es69]; exact xU_c q2_6
      have hF77 := hF_2.put es69 (by omega)
      refine x_iinc (lv' := [(2, .int (xJ (i2_2 + 1))), (0, .ref (h0 + 268)), (1, .int (xJ n))]) hx hb hl 2 rfl dX11_laysDark_15 (by decide) rfl (fun ls hl => ?_)
      refine lv_goto (tgt := 2) hx hb dX11_laysDark_18 (by decide) ?_
      exact ih2 (i2_2 + 1) s69 H locs ls (by omega) hF77 q70 q71 q72 q73 q74 q75 q76 (by omega) (by omega) hW (lv_sub hl [1, 2, 0] rfl)
  exact L2 ((100 - 0 : Int).toNat + 1) 0 s0 H locs ls (by decide) hF p0 p1 p2 p3 p4 p5 p6 (by omega) (Nat.lt_succ_self _) hW (lv_sub hl [1, 2, 0] rfl)
set_option maxHeartbeats 4000000 in
set_option maxRecDepth 100000 in
theorem c_X11_dark (l : Launch) (D : va_G) (g : xG) (T : Nat × Nat × Nat) (h0 : Nat) (s0 : xS) (hσ : xRR s0) (n : Int) (rn : xR n) (x : Int) (rx : xR x) (p0 : s0 269 34 = 0) (p1 : s0 269 35 = 0) (p2 : s0 269 36 = 0) (p3 : 0 ≤ s0 269 37 ∧ s0 269 37 ≤ 9999) (p4 : 0 ≤ s0 269 38 ∧ s0 269 38 ≤ 65535) (p5 : s0 295 = fun _ => 0) (p6 : s0 305 = fun _ => 0) (p7 : s0 272 = fun _ => 0) : Met l yX11_dark (xws yX11_dark cX11_dark 6 (some .int)) { frames := 4, cells := 0, slots := 0, locals := 87 } (xP [.ref (h0 + 268), .int (xJ n), .int (xJ x)] D g T h0 s0) (xQi D g h0 (fun r τ => xFr (fun k => k = 269 ∨ k = 270 ∨ k = 295 ∨ k = 305) s0 τ ∧ ((1 ≤ n ∧ n ≤ 60 ∧ ((x = 0 ∧ r = 100) ∨ (x = 1 ∧ r = 0) ∨ (x = 2 ∧ r = 0))) ∨ (r = -1 ∧ ¬ (1 ≤ n ∧ n ≤ 60 ∧ 0 ≤ x ∧ x ≤ 2))))) 0 0 (xA h0) := by
  refine x_met hσ (by decide) (Nat.le_of_ble_eq_true rfl) ?_
  intro p e s m args below meth c hx hb hr hml hown hT hlk hnm hE hW ls hl
  have hl : lv_has ls 6 [(0, .ref (h0 + 268)), (1, .int (xJ n)), (2, .int (xJ x))] := hl
  obtain ⟨Q, eQ⟩ : ∃ Q, Q = MQ below (xQi D g h0 (fun r τ => xFr (fun k => k = 269 ∨ k = 270 ∨ k = 295 ∨ k = 305) s0 τ ∧ ((1 ≤ n ∧ n ≤ 60 ∧ ((x = 0 ∧ r = 100) ∨ (x = 1 ∧ r = 0) ∨ (x = 2 ∧ r = 0))) ∨ (r = -1 ∧ ¬ (1 ≤ n ∧ n ≤ 60 ∧ 0 ≤ x ∧ x ≤ 2))))) args s 0 0 (xA h0) := ⟨_, rfl⟩
  rw [← eQ]
  generalize hHe : ([] : List Loc) = locs at hW ⊢
  obtain ⟨H, eH⟩ : ∃ H, H = s.heap := ⟨_, rfl⟩
  rw [← eH] at hW ⊢
  have hF : xFr (fun k => k = 269 ∨ k = 270 ∨ k = 295 ∨ k = 305) s0 s0 := xFr.rf
  refine x_iload_n hx hb hl 1 rfl dX11_dark_0 rfl ?_
  refine x_iconst hx hb dX11_dark_1 ?_
  refine x_bipush hx hb dX11_dark_2 (by decide) ?_
  refine x_goi (x_runS (As := [.int (xJ n), .int (xJ 1), .int (xJ 60)]) hx hb hml hown hT hE hW hl.1 cf_X11_in wq1383 wq1382 (c_X11_in l D g T h0 s0 hW.2.1 n rn 1 (by decide) 60 (by decide)) ⟨rfl, rfl, ⟨by decide, by decide⟩, ⟨by decide, by decide⟩⟩ rfl rfl (Nat.le_of_ble_eq_true rfl) dX11_dark_4) hW (fun x1 s2 H locs rx1 hp3 hW => ?_)
  obtain ⟨es2, hp3⟩ := hp3
  subst es2
  have ghp3 := hp3
  refine x_if_eq (tgt := 19) hx hb rx1 dX11_dark_7 (by decide) (fun c4 => ?_) (fun c4 => ?_)
  · skip
    refine x_iconst hx hb dX11_dark_19 ?_
    rw [eQ]
    exact x_iret hx hb hr hlk hW (by decide) ⟨hF, by omega⟩ dX11_dark_20
  refine x_iload_n hx hb hl 2 rfl dX11_dark_10 rfl ?_
  refine x_iconst hx hb dX11_dark_11 ?_
  refine x_iconst hx hb dX11_dark_12 ?_
  refine x_goi (x_runS (As := [.int (xJ x), .int (xJ 0), .int (xJ 2)]) hx hb hml hown hT hE hW hl.1 cf_X11_in wq1383 wq1382 (c_X11_in l D g T h0 s0 hW.2.1 x rx 0 (by decide) 2 (by decide)) ⟨rfl, rfl, ⟨by decide, by decide⟩, ⟨by decide, by decide⟩⟩ rfl rfl (Nat.le_of_ble_eq_true rfl) dX11_dark_13) hW (fun x5 s6 H locs rx5 hp7 hW => ?_)
  obtain ⟨es6, hp7⟩ := hp7
  subst es6
  have ghp7 := hp7
  refine x_if_ne (tgt := 21) hx hb rx5 dX11_dark_16 (by decide) (fun c8 => ?_) (fun c8 => ?_)
  · skip
    refine x_aload_n hx hb hl 0 rfl dX11_dark_21 rfl ?_
    refine x_iload_n hx hb hl 1 rfl dX11_dark_22 rfl ?_
    refine x_gov (x_runV (As := [.int (xJ n)]) hx hb hml hown hT hE hW hl.1 (Or.inl (by decide)) (so_268 h0 g _) rfl cf_X11_laysDark wq1724 wq160 wq1722 (c_X11_laysDark l D g T h0 s0 hW.2.1 n rn p0 p1 p2 p3 p4 p5 p6) ⟨rfl, rfl, ⟨by decide, by decide⟩, ⟨by decide, by decide⟩⟩ rfl rfl (Nat.le_of_ble_eq_true rfl) dX11_dark_23) hW (fun s10 H locs hp11 hW => ?_)
    obtain ⟨fs10, hp11⟩ := hp11
    have hF12 := hF.call fs10 (fun k h => by omega)
    have q13 : s10 272 = fun _ => 0 := (fs10 _ (by omega)).trans p7
    have ghp11 := hp11.2
    refine x_iconst hx hb dX11_dark_26 ?_
    refine lv_istore_n (lv' := [(3, .int (xJ 0)), (0, .ref (h0 + 268)), (1, .int (xJ n)), (2, .int (xJ x))]) hx hb dX11_dark_27 rfl hl (by decide) rfl (fun ls hl => ?_)
    refine x_bipush hx hb dX11_dark_28 (by decide) ?_
    refine lv_istore (lv' := [(4, .int (xJ (-2))), (3, .int (xJ 0)), (0, .ref (h0 + 268)), (1, .int (xJ n)), (2, .int (xJ x))]) hx hb dX11_dark_30 hl (by decide) rfl (fun ls hl => ?_)
    refine x_iconst hx hb dX11_dark_32 ?_
    refine lv_istore (lv' := [(5, .int (xJ 0)), (4, .int (xJ (-2))), (3, .int (xJ 0)), (0, .ref (h0 + 268)), (1, .int (xJ n)), (2, .int (xJ x))]) hx hb dX11_dark_33 hl (by decide) rfl (fun ls hl => ?_)
    have L35 : ∀ (fu : Nat) (i3_35 : Int) (i4_35 : Int) (i5_35 : Int) (ls : Array Slot), (xR i3_35) → (xR i4_35) → (xR i5_35) → ((i5_35 = 0 ∧ i4_35 = -2) ∨ (0 < i5_35 ∧ i4_35 = 0)) → (i3_35 = i5_35 ∧ i5_35 ≤ 100) → (100 - i5_35).toNat < fu → lv_has ls 6 [(0, .ref (h0 + 268)), (2, .int (xJ x)), (3, .int (xJ i3_35)), (4, .int (xJ i4_35)), (5, .int (xJ i5_35))] → W p l e { frames := 4, cells := 0, slots := 0, locals := 87 } s m args below meth c H locs 0 0 Q (F0 m 35 ls []) := by
      intro fu
      induction fu with
      | zero => intro i3_35 i4_35 i5_35 ls ri3_35 ri4_35 ri5_35 v35_0 v35_1 hm; exact absurd hm (Nat.not_lt_zero _)
      | succ fu ih35 =>
        intro i3_35 i4_35 i5_35 ls ri3_35 ri4_35 ri5_35 v35_0 v35_1 hm  hl
        refine x_iload hx hb hl 4 rfl dX11_dark_35 ?_
        refine x_bipush hx hb dX11_dark_37 (by decide) ?_
        refine x_icmp_ge (tgt := 108) hx hb ri5_35 (by decide) dX11_dark_39 (by decide) (fun c14 => ?_) (fun c14 => ?_)
        · skip
          refine x_iload_n hx hb hl 1 rfl dX11_dark_108 rfl ?_
          refine x_if_ne (tgt := 116) hx hb rx dX11_dark_109 (by decide) (fun c15 => ?_) (fun c15 => ?_)
          · skip
            refine x_iload_n hx hb hl 1 rfl dX11_dark_116 rfl ?_
            refine x_iconst hx hb dX11_dark_117 ?_
            refine x_icmp_ne (tgt := 126) hx hb rx (by decide) dX11_dark_118 (by decide) (fun c16 => ?_) (fun c16 => ?_)
            · skip
              refine x_iload hx hb hl 3 rfl dX11_dark_126 ?_
              refine x_bipush hx hb dX11_dark_128 (by decide) ?_
              refine x_icmp_ne (tgt := 137) hx hb ri4_35 (by decide) dX11_dark_130 (by decide) (fun c17 => ?_) (fun c17 => ?_)
              · skip
                refine x_aload_n hx hb hl 0 rfl dX11_dark_137 rfl ?_
                refine x_get (j := 55) (v := .ref (h0 + 305)) hx hb hown hT hE hW cls_X11 (Or.inl (by decide)) (so_268 h0 g _) (by decide) rfl wq1240 dX11_dark_138 ?_
                refine x_iload hx hb hl 3 rfl dX11_dark_141 ?_
                refine x_iald hx hb hE hW (Or.inl (by decide)) (sa_305 h0 g _) (by omega) (by decide) dX11_dark_143 ?_
                refine x_rd hW (fun x18 ex18 rx18 => ?_)
                have fx18 : x18 = 0 := by rw [ex18, hp11.1.1]
                rw [eQ]
                exact x_iret hx hb hr hlk hW rx18 ⟨hF12, by omega⟩ dX11_dark_144
              refine x_iconst hx hb dX11_dark_133 ?_
              refine lv_goto (tgt := 144) hx hb dX11_dark_134 (by decide) ?_
              rw [eQ]
              exact x_iret hx hb hr hlk hW (by decide) ⟨hF12, by omega⟩ dX11_dark_144
            refine x_iload hx hb hl 3 rfl dX11_dark_121 ?_
            refine lv_goto (tgt := 144) hx hb dX11_dark_123 (by decide) ?_
            rw [eQ]
            exact x_iret hx hb hr hlk hW ri4_35 ⟨hF12, by omega⟩ dX11_dark_144
          refine x_iload_n hx hb hl 2 rfl dX11_dark_112 rfl ?_
          refine lv_goto (tgt := 144) hx hb dX11_dark_113 (by decide) ?_
          rw [eQ]
          exact x_iret hx hb hr hlk hW ri3_35 ⟨hF12, by omega⟩ dX11_dark_144
        refine x_aload_n hx hb hl 0 rfl dX11_dark_42 rfl ?_
        refine x_get (j := 3) (v := .ref (h0 + 272)) hx hb hown hT hE hW cls_X11 (Or.inl (by decide)) (so_268 h0 g _) (by decide) rfl wq1188 dX11_dark_43 ?_
        refine x_iload hx hb hl 4 rfl dX11_dark_46 ?_
        refine x_iald hx hb hE hW (Or.inl (by decide)) (sa_272 h0 g _) (by omega) (by decide) dX11_dark_48 ?_
        refine x_rd hW (fun x19 ex19 rx19 => ?_)
        have fx19 : x19 = 0 := by rw [ex19, q13]
        refine x_iconst hx hb dX11_dark_49 ?_
        refine x_icmp_ne (tgt := 56) hx hb rx19 (by decide) dX11_dark_50 (by decide) (fun c20 => ?_) (fun c20 => False.elim (by omega))
        refine x_iload_n hx hb hl 2 rfl dX11_dark_56 rfl ?_
        refine x_aload_n hx hb hl 0 rfl dX11_dark_57 rfl ?_
        refine x_get (j := 55) (v := .ref (h0 + 305)) hx hb hown hT hE hW cls_X11 (Or.inl (by decide)) (so_268 h0 g _) (by decide) rfl wq1240 dX11_dark_58 ?_
        refine x_iload hx hb hl 4 rfl dX11_dark_61 ?_
        refine x_iald hx hb hE hW (Or.inl (by decide)) (sa_305 h0 g _) (by omega) (by decide) dX11_dark_63 ?_
        refine x_rd hW (fun x21 ex21 rx21 => ?_)
        have fx21 : x21 = 0 := by rw [ex21, hp11.1.1]
        refine x_if_ne (tgt := 71) hx hb rx21 dX11_dark_64 (by decide) (fun c22 => False.elim (by omega)) (fun c22 => ?_)
        refine x_iconst hx hb dX11_dark_67 ?_
        refine lv_goto (tgt := 72) hx hb dX11_dark_68 (by decide) ?_
        refine x_iadd hx hb dX11_dark_72 ?_
        refine x_nm (fun x23 ex23 => ?_)
        refine lv_istore_n (lv' := [(3, .int (xJ x23)), (0, .ref (h0 + 268)), (2, .int (xJ x)), (4, .int (xJ i4_35)), (5, .int (xJ i5_35))]) hx hb dX11_dark_73 rfl hl (by decide) rfl (fun ls hl => ?_)
        refine x_iload hx hb hl 3 rfl dX11_dark_74 ?_
        refine x_bipush hx hb dX11_dark_76 (by decide) ?_
        refine x_icmp_eq (tgt := 98) hx hb ri4_35 (by decide) dX11_dark_78 (by decide) (fun c24 => ?_) (fun c24 => ?_)
        · skip
          refine x_iload hx hb hl 4 rfl dX11_dark_98 ?_
          refine lv_istore (lv' := [(4, .int (xJ i5_35)), (3, .int (xJ x23)), (0, .ref (h0 + 268)), (2, .int (xJ x)), (5, .int (xJ i5_35))]) hx hb dX11_dark_100 hl (by decide) rfl (fun ls hl => ?_)
          refine x_iinc (lv' := [(5, .int (xJ (i5_35 + 1))), (4, .int (xJ i5_35)), (3, .int (xJ x23)), (0, .ref (h0 + 268)), (2, .int (xJ x))]) hx hb hl 4 rfl dX11_dark_102 (by decide) rfl (fun ls hl => ?_)
          refine lv_goto (tgt := 35) hx hb dX11_dark_105 (by decide) ?_
          exact ih35 x23 i5_35 (i5_35 + 1) ls (by omega) ri5_35 (by omega) (by omega) (by omega) (by omega)  (lv_sub hl [3, 4, 2, 1, 0] rfl)
        refine x_aload_n hx hb hl 1 rfl dX11_dark_81 rfl ?_
        refine x_get (j := 55) (v := .ref (h0 + 305)) hx hb hown hT hE hW cls_X11 (Or.inl (by decide)) (so_268 h0 g _) (by decide) rfl wq1240 dX11_dark_82 ?_
        refine x_iload hx hb hl 4 rfl dX11_dark_85 ?_
        refine x_iald hx hb hE hW (Or.inl (by decide)) (sa_305 h0 g _) (by omega) (by decide) dX11_dark_87 ?_
        refine x_rd hW (fun x25 ex25 rx25 => ?_)
        have fx25 : x25 = 0 := by rw [ex25, hp11.1.1]
        refine x_aload_n hx hb hl 1 rfl dX11_dark_88 rfl ?_
        refine x_get (j := 55) (v := .ref (h0 + 305)) hx hb hown hT hE hW cls_X11 (Or.inl (by decide)) (so_268 h0 g _) (by decide) rfl wq1240 dX11_dark_89 ?_
        refine x_iload hx hb hl 3 rfl dX11_dark_92 ?_
        refine x_iald hx hb hE hW (Or.inl (by decide)) (sa_305 h0 g _) (by omega) (by decide) dX11_dark_94 ?_
        refine x_rd hW (fun x26 ex26 rx26 => ?_)
        have fx26 : x26 = 0 := by rw [ex26, hp11.1.1]
        refine x_icmp_le (tgt := 102) hx hb rx25 rx26 dX11_dark_95 (by decide) (fun c27 => ?_) (fun c27 => False.elim (by omega))
        refine x_iinc (lv' := [(5, .int (xJ (i5_35 + 1))), (3, .int (xJ x23)), (0, .ref (h0 + 268)), (2, .int (xJ x)), (4, .int (xJ i4_35))]) hx hb hl 4 rfl dX11_dark_102 (by decide) rfl (fun ls hl => ?_)
        refine lv_goto (tgt := 35) hx hb dX11_dark_105 (by decide) ?_
        exact ih35 x23 i4_35 (i5_35 + 1) ls (by omega) ri4_35 (by omega) (by omega) (by omega) (by omega)  (lv_sub hl [2, 3, 1, 4, 0] rfl)
    exact L35 ((100 - 0 : Int).toNat + 1) 0 (-2) 0 ls (by decide) (by decide) (by decide) (by omega) (by omega) (Nat.lt_succ_self _)  (lv_sub hl [3, 5, 2, 1, 0] rfl)
  refine x_iconst hx hb dX11_dark_19 ?_
  rw [eQ]
  exact x_iret hx hb hr hlk hW (by decide) ⟨hF, by omega⟩ dX11_dark_20
