set_option maxHeartbeats 4000000 in
set_option maxRecDepth 100000 in
theorem c_X10_holds2 (l : Launch) (D : va_G) (g : xG) (T : Nat × Nat × Nat) (h0 : Nat) (s0 : xS) (hσ : xRR s0) (ka : Nat) (hka : ka < 310) (hns : nsC ka) (hca : ∀ σ : xS, xcel h0 g σ ka = .inl (g.1, 2, .inl (fun j => xJ (σ ka j)))) (x : Int) (rx : xR x) : Met l yX10_holds (xws yX10_holds cX10_holds 3 (some .boolean)) { frames := 0, cells := 0, slots := 0, locals := 0 } (xP [.ref (h0 + ka), .int (xJ x)] D g T h0 s0) (xQi D g h0 (fun r τ => s0 = τ ∧ (r = 0 ∨ r = 1))) 0 0 (xA h0) := by
  refine x_met hσ (by decide) (Nat.le_of_ble_eq_true rfl) ?_
  intro p e s m args below meth c hx hb hr hml hown hT hlk hnm hE hW ls hl
  have hl : lv_has ls 3 [(0, .ref (h0 + ka)), (1, .int (xJ x))] := hl
  obtain ⟨Q, eQ⟩ : ∃ Q, Q = MQ below (xQi D g h0 (fun r τ => s0 = τ ∧ (r = 0 ∨ r = 1))) args s 0 0 (xA h0) := ⟨_, rfl⟩
  rw [← eQ]
  generalize hHe : ([] : List Loc) = locs at hW ⊢
  obtain ⟨H, eH⟩ : ∃ H, H = s.heap := ⟨_, rfl⟩
  rw [← eH] at hW ⊢
  refine x_iconst hx hb dX10_holds_0 ?_
  refine lv_istore_n (lv' := [(2, .int (xJ 0)), (0, .ref (h0 + ka)), (1, .int (xJ x))]) hx hb dX10_holds_1 rfl hl (by decide) rfl (fun ls hl => ?_)
  have L2 : ∀ (fu : Nat) (i2_2 : Int) (ls : Array Slot), (xR i2_2) → (0 ≤ i2_2) → (2 - i2_2).toNat < fu → lv_has ls 3 [(0, .ref (h0 + ka)), (1, .int (xJ x)), (2, .int (xJ i2_2))] → W p l e { frames := 0, cells := 0, slots := 0, locals := 0 } s m args below meth c H locs 0 0 Q (F0 m 2 ls []) := by
    intro fu
    induction fu with
    | zero => intro i2_2 ls ri2_2 v2_0 hm; exact absurd hm (Nat.not_lt_zero _)
    | succ fu ih2 =>
      intro i2_2 ls ri2_2 v2_0 hm  hl
      refine x_iload_n hx hb hl 2 rfl dX10_holds_2 rfl ?_
      refine x_aload_n hx hb hl 0 rfl dX10_holds_3 rfl ?_
      refine x_alen (n := 2) (t0 := 0) hx hb hE hW (Or.inl hka) (hca _) rfl rfl dX10_holds_4 ?_
      refine x_icmp_ge (tgt := 23) hx hb ri2_2 (by decide) dX10_holds_5 (by decide) (fun c1 => ?_) (fun c1 => ?_)
      · skip
        refine x_iconst hx hb dX10_holds_23 ?_
        rw [eQ]
        exact x_zret hx hb hr hlk hW (by omega) ⟨rfl, by omega⟩ dX10_holds_24
      refine x_aload_n hx hb hl 0 rfl dX10_holds_8 rfl ?_
      refine x_iload_n hx hb hl 2 rfl dX10_holds_9 rfl ?_
      refine x_iald hx hb hE hW (Or.inl hka) (hca _) (by omega) (by decide) dX10_holds_10 ?_
      refine x_rd hW (fun x2 ex2 rx2 => ?_)
      refine x_iload_n hx hb hl 1 rfl dX10_holds_11 rfl ?_
      refine x_icmp_ne (tgt := 17) hx hb rx2 rx dX10_holds_12 (by decide) (fun c3 => ?_) (fun c3 => ?_)
      · skip
        refine x_iinc (lv' := [(2, .int (xJ (i2_2 + 1))), (0, .ref (h0 + ka)), (1, .int (xJ x))]) hx hb hl 2 rfl dX10_holds_17 (by decide) rfl (fun ls hl => ?_)
        refine lv_goto (tgt := 2) hx hb dX10_holds_20 (by decide) ?_
        exact ih2 (i2_2 + 1) ls (by omega) (by omega) (by omega)  (lv_sub hl [1, 2, 0] rfl)
      refine x_iconst hx hb dX10_holds_15 ?_
      rw [eQ]
      exact x_zret hx hb hr hlk hW (by omega) ⟨rfl, by omega⟩ dX10_holds_16
  exact L2 ((2 - 0 : Int).toNat + 1) 0 ls (by decide) (by omega) (Nat.lt_succ_self _)  (lv_sub hl [1, 2, 0] rfl)
set_option maxHeartbeats 4000000 in
set_option maxRecDepth 100000 in
theorem c_X10_bitsOfTold2 (l : Launch) (D : va_G) (g : xG) (T : Nat × Nat × Nat) (h0 : Nat) (s0 : xS) (hσ : xRR s0) (ka : Nat) (hka : ka < 310) (hns : nsC ka) (hca : ∀ σ : xS, xcel h0 g σ ka = .inl (g.1, 2, .inl (fun j => xJ (σ ka j)))) : Met l yX10_bitsOfTold (xws yX10_bitsOfTold cX10_bitsOfTold 3 (some .int)) { frames := 0, cells := 0, slots := 0, locals := 0 } (xP [.ref (h0 + ka)] D g T h0 s0) (xQi D g h0 (fun r τ => s0 = τ ∧ (True))) 0 0 (xA h0) := by
  refine x_met hσ (by decide) (Nat.le_of_ble_eq_true rfl) ?_
  intro p e s m args below meth c hx hb hr hml hown hT hlk hnm hE hW ls hl
  have hl : lv_has ls 3 [(0, .ref (h0 + ka))] := hl
  obtain ⟨Q, eQ⟩ : ∃ Q, Q = MQ below (xQi D g h0 (fun r τ => s0 = τ ∧ (True))) args s 0 0 (xA h0) := ⟨_, rfl⟩
  rw [← eQ]
  generalize hHe : ([] : List Loc) = locs at hW ⊢
  obtain ⟨H, eH⟩ : ∃ H, H = s.heap := ⟨_, rfl⟩
  rw [← eH] at hW ⊢
  refine x_iconst hx hb dX10_bitsOfTold_0 ?_
  refine lv_istore_n (lv' := [(1, .int (xJ 0)), (0, .ref (h0 + ka))]) hx hb dX10_bitsOfTold_1 rfl hl (by decide) rfl (fun ls hl => ?_)
  refine x_iconst hx hb dX10_bitsOfTold_2 ?_
  refine lv_istore_n (lv' := [(2, .int (xJ 0)), (1, .int (xJ 0)), (0, .ref (h0 + ka))]) hx hb dX10_bitsOfTold_3 rfl hl (by decide) rfl (fun ls hl => ?_)
  have L4 : ∀ (fu : Nat) (i1_4 : Int) (i2_4 : Int) (ls : Array Slot), (xR i1_4) → (xR i2_4) → (0 ≤ i2_4) → (2 - i2_4).toNat < fu → lv_has ls 3 [(0, .ref (h0 + ka)), (1, .int (xJ i1_4)), (2, .int (xJ i2_4))] → W p l e { frames := 0, cells := 0, slots := 0, locals := 0 } s m args below meth c H locs 0 0 Q (F0 m 4 ls []) := by
    intro fu
    induction fu with
    | zero => intro i1_4 i2_4 ls ri1_4 ri2_4 v4_0 hm; exact absurd hm (Nat.not_lt_zero _)
    | succ fu ih4 =>
      intro i1_4 i2_4 ls ri1_4 ri2_4 v4_0 hm  hl
      refine x_iload_n hx hb hl 2 rfl dX10_bitsOfTold_4 rfl ?_
      refine x_aload_n hx hb hl 0 rfl dX10_bitsOfTold_5 rfl ?_
      refine x_alen (n := 2) (t0 := 0) hx hb hE hW (Or.inl hka) (hca _) rfl rfl dX10_bitsOfTold_6 ?_
      refine x_icmp_ge (tgt := 29) hx hb ri2_4 (by decide) dX10_bitsOfTold_7 (by decide) (fun c1 => ?_) (fun c1 => ?_)
      · skip
        refine x_iload_n hx hb hl 1 rfl dX10_bitsOfTold_29 rfl ?_
        rw [eQ]
        exact x_iret hx hb hr hlk hW ri1_4 ⟨rfl, trivial⟩ dX10_bitsOfTold_30
      refine x_aload_n hx hb hl 0 rfl dX10_bitsOfTold_10 rfl ?_
      refine x_iload_n hx hb hl 2 rfl dX10_bitsOfTold_11 rfl ?_
      refine x_iald hx hb hE hW (Or.inl hka) (hca _) (by omega) (by decide) dX10_bitsOfTold_12 ?_
      refine x_rd hW (fun x2 ex2 rx2 => ?_)
      refine x_iconst hx hb dX10_bitsOfTold_13 ?_
      refine x_icmp_eq (tgt := 23) hx hb rx2 (by decide) dX10_bitsOfTold_14 (by decide) (fun c3 => ?_) (fun c3 => ?_)
      · skip
        refine x_iinc (lv' := [(2, .int (xJ (i2_4 + 1))), (0, .ref (h0 + ka)), (1, .int (xJ i1_4))]) hx hb hl 2 rfl dX10_bitsOfTold_23 (by decide) rfl (fun ls hl => ?_)
        refine lv_goto (tgt := 4) hx hb dX10_bitsOfTold_26 (by decide) ?_
        exact ih4 i1_4 (i2_4 + 1) ls ri1_4 (by omega) (by omega) (by omega)  (lv_sub hl [1, 2, 0] rfl)
      refine x_iload_n hx hb hl 1 rfl dX10_bitsOfTold_17 rfl ?_
      refine x_iconst hx hb dX10_bitsOfTold_18 ?_
      refine x_iload_n hx hb hl 2 rfl dX10_bitsOfTold_19 rfl ?_
      refine lv_ishl hx hb dX10_bitsOfTold_20 ?_
      refine x_any (fun x4 rx4 => ?_)
      refine lv_ior hx hb dX10_bitsOfTold_21 ?_
      refine x_any (fun x5 rx5 => ?_)
      refine lv_istore_n (lv' := [(1, .int (xJ x5)), (0, .ref (h0 + ka)), (2, .int (xJ i2_4))]) hx hb dX10_bitsOfTold_22 rfl hl (by decide) rfl (fun ls hl => ?_)
      refine x_iinc (lv' := [(2, .int (xJ (i2_4 + 1))), (1, .int (xJ x5)), (0, .ref (h0 + ka))]) hx hb hl 2 rfl dX10_bitsOfTold_23 (by decide) rfl (fun ls hl => ?_)
      refine lv_goto (tgt := 4) hx hb dX10_bitsOfTold_26 (by decide) ?_
      exact ih4 x5 (i2_4 + 1) ls rx5 (by omega) (by omega) (by omega)  (lv_sub hl [2, 1, 0] rfl)
  exact L4 ((2 - 0 : Int).toNat + 1) 0 0 ls (by decide) (by decide) (by omega) (Nat.lt_succ_self _)  (lv_sub hl [2, 1, 0] rfl)
set_option maxHeartbeats 4000000 in
set_option maxRecDepth 100000 in
theorem c_X10_holds10 (l : Launch) (D : va_G) (g : xG) (T : Nat × Nat × Nat) (h0 : Nat) (s0 : xS) (hσ : xRR s0) (ka : Nat) (hka : ka < 310) (hns : nsC ka) (hca : ∀ σ : xS, xcel h0 g σ ka = .inl (g.1, 10, .inl (fun j => xJ (σ ka j)))) (x : Int) (rx : xR x) : Met l yX10_holds (xws yX10_holds cX10_holds 3 (some .boolean)) { frames := 0, cells := 0, slots := 0, locals := 0 } (xP [.ref (h0 + ka), .int (xJ x)] D g T h0 s0) (xQi D g h0 (fun r τ => s0 = τ ∧ (r = 0 ∨ r = 1))) 0 0 (xA h0) := by
  refine x_met hσ (by decide) (Nat.le_of_ble_eq_true rfl) ?_
  intro p e s m args below meth c hx hb hr hml hown hT hlk hnm hE hW ls hl
  have hl : lv_has ls 3 [(0, .ref (h0 + ka)), (1, .int (xJ x))] := hl
  obtain ⟨Q, eQ⟩ : ∃ Q, Q = MQ below (xQi D g h0 (fun r τ => s0 = τ ∧ (r = 0 ∨ r = 1))) args s 0 0 (xA h0) := ⟨_, rfl⟩
  rw [← eQ]
  generalize hHe : ([] : List Loc) = locs at hW ⊢
  obtain ⟨H, eH⟩ : ∃ H, H = s.heap := ⟨_, rfl⟩
  rw [← eH] at hW ⊢
  refine x_iconst hx hb dX10_holds_0 ?_
  refine lv_istore_n (lv' := [(2, .int (xJ 0)), (0, .ref (h0 + ka)), (1, .int (xJ x))]) hx hb dX10_holds_1 rfl hl (by decide) rfl (fun ls hl => ?_)
  have L2 : ∀ (fu : Nat) (i2_2 : Int) (ls : Array Slot), (xR i2_2) → (0 ≤ i2_2) → (10 - i2_2).toNat < fu → lv_has ls 3 [(0, .ref (h0 + ka)), (1, .int (xJ x)), (2, .int (xJ i2_2))] → W p l e { frames := 0, cells := 0, slots := 0, locals := 0 } s m args below meth c H locs 0 0 Q (F0 m 2 ls []) := by
    intro fu
    induction fu with
    | zero => intro i2_2 ls ri2_2 v2_0 hm; exact absurd hm (Nat.not_lt_zero _)
    | succ fu ih2 =>
      intro i2_2 ls ri2_2 v2_0 hm  hl
      refine x_iload_n hx hb hl 2 rfl dX10_holds_2 rfl ?_
      refine x_aload_n hx hb hl 0 rfl dX10_holds_3 rfl ?_
      refine x_alen (n := 10) (t0 := 0) hx hb hE hW (Or.inl hka) (hca _) rfl rfl dX10_holds_4 ?_
      refine x_icmp_ge (tgt := 23) hx hb ri2_2 (by decide) dX10_holds_5 (by decide) (fun c1 => ?_) (fun c1 => ?_)
      · skip
        refine x_iconst hx hb dX10_holds_23 ?_
        rw [eQ]
        exact x_zret hx hb hr hlk hW (by omega) ⟨rfl, by omega⟩ dX10_holds_24
      refine x_aload_n hx hb hl 0 rfl dX10_holds_8 rfl ?_
      refine x_iload_n hx hb hl 2 rfl dX10_holds_9 rfl ?_
      refine x_iald hx hb hE hW (Or.inl hka) (hca _) (by omega) (by decide) dX10_holds_10 ?_
      refine x_rd hW (fun x2 ex2 rx2 => ?_)
      refine x_iload_n hx hb hl 1 rfl dX10_holds_11 rfl ?_
      refine x_icmp_ne (tgt := 17) hx hb rx2 rx dX10_holds_12 (by decide) (fun c3 => ?_) (fun c3 => ?_)
      · skip
        refine x_iinc (lv' := [(2, .int (xJ (i2_2 + 1))), (0, .ref (h0 + ka)), (1, .int (xJ x))]) hx hb hl 2 rfl dX10_holds_17 (by decide) rfl (fun ls hl => ?_)
        refine lv_goto (tgt := 2) hx hb dX10_holds_20 (by decide) ?_
        exact ih2 (i2_2 + 1) ls (by omega) (by omega) (by omega)  (lv_sub hl [1, 2, 0] rfl)
      refine x_iconst hx hb dX10_holds_15 ?_
      rw [eQ]
      exact x_zret hx hb hr hlk hW (by omega) ⟨rfl, by omega⟩ dX10_holds_16
  exact L2 ((10 - 0 : Int).toNat + 1) 0 ls (by decide) (by omega) (Nat.lt_succ_self _)  (lv_sub hl [1, 2, 0] rfl)
set_option maxHeartbeats 4000000 in
set_option maxRecDepth 100000 in
theorem c_X10_bitsOfTold10 (l : Launch) (D : va_G) (g : xG) (T : Nat × Nat × Nat) (h0 : Nat) (s0 : xS) (hσ : xRR s0) (ka : Nat) (hka : ka < 310) (hns : nsC ka) (hca : ∀ σ : xS, xcel h0 g σ ka = .inl (g.1, 10, .inl (fun j => xJ (σ ka j)))) : Met l yX10_bitsOfTold (xws yX10_bitsOfTold cX10_bitsOfTold 3 (some .int)) { frames := 0, cells := 0, slots := 0, locals := 0 } (xP [.ref (h0 + ka)] D g T h0 s0) (xQi D g h0 (fun r τ => s0 = τ ∧ (True))) 0 0 (xA h0) := by
  refine x_met hσ (by decide) (Nat.le_of_ble_eq_true rfl) ?_
  intro p e s m args below meth c hx hb hr hml hown hT hlk hnm hE hW ls hl
  have hl : lv_has ls 3 [(0, .ref (h0 + ka))] := hl
  obtain ⟨Q, eQ⟩ : ∃ Q, Q = MQ below (xQi D g h0 (fun r τ => s0 = τ ∧ (True))) args s 0 0 (xA h0) := ⟨_, rfl⟩
  rw [← eQ]
  generalize hHe : ([] : List Loc) = locs at hW ⊢
  obtain ⟨H, eH⟩ : ∃ H, H = s.heap := ⟨_, rfl⟩
  rw [← eH] at hW ⊢
  refine x_iconst hx hb dX10_bitsOfTold_0 ?_
  refine lv_istore_n (lv' := [(1, .int (xJ 0)), (0, .ref (h0 + ka))]) hx hb dX10_bitsOfTold_1 rfl hl (by decide) rfl (fun ls hl => ?_)
  refine x_iconst hx hb dX10_bitsOfTold_2 ?_
  refine lv_istore_n (lv' := [(2, .int (xJ 0)), (1, .int (xJ 0)), (0, .ref (h0 + ka))]) hx hb dX10_bitsOfTold_3 rfl hl (by decide) rfl (fun ls hl => ?_)
  have L4 : ∀ (fu : Nat) (i1_4 : Int) (i2_4 : Int) (ls : Array Slot), (xR i1_4) → (xR i2_4) → (0 ≤ i2_4) → (10 - i2_4).toNat < fu → lv_has ls 3 [(0, .ref (h0 + ka)), (1, .int (xJ i1_4)), (2, .int (xJ i2_4))] → W p l e { frames := 0, cells := 0, slots := 0, locals := 0 } s m args below meth c H locs 0 0 Q (F0 m 4 ls []) := by
    intro fu
    induction fu with
    | zero => intro i1_4 i2_4 ls ri1_4 ri2_4 v4_0 hm; exact absurd hm (Nat.not_lt_zero _)
    | succ fu ih4 =>
      intro i1_4 i2_4 ls ri1_4 ri2_4 v4_0 hm  hl
      refine x_iload_n hx hb hl 2 rfl dX10_bitsOfTold_4 rfl ?_
      refine x_aload_n hx hb hl 0 rfl dX10_bitsOfTold_5 rfl ?_
      refine x_alen (n := 10) (t0 := 0) hx hb hE hW (Or.inl hka) (hca _) rfl rfl dX10_bitsOfTold_6 ?_
      refine x_icmp_ge (tgt := 29) hx hb ri2_4 (by decide) dX10_bitsOfTold_7 (by decide) (fun c1 => ?_) (fun c1 => ?_)
      · skip
        refine x_iload_n hx hb hl 1 rfl dX10_bitsOfTold_29 rfl ?_
        rw [eQ]
        exact x_iret hx hb hr hlk hW ri1_4 ⟨rfl, trivial⟩ dX10_bitsOfTold_30
      refine x_aload_n hx hb hl 0 rfl dX10_bitsOfTold_10 rfl ?_
      refine x_iload_n hx hb hl 2 rfl dX10_bitsOfTold_11 rfl ?_
      refine x_iald hx hb hE hW (Or.inl hka) (hca _) (by omega) (by decide) dX10_bitsOfTold_12 ?_
      refine x_rd hW (fun x2 ex2 rx2 => ?_)
      refine x_iconst hx hb dX10_bitsOfTold_13 ?_
      refine x_icmp_eq (tgt := 23) hx hb rx2 (by decide) dX10_bitsOfTold_14 (by decide) (fun c3 => ?_) (fun c3 => ?_)
      · skip
        refine x_iinc (lv' := [(2, .int (xJ (i2_4 + 1))), (0, .ref (h0 + ka)), (1, .int (xJ i1_4))]) hx hb hl 2 rfl dX10_bitsOfTold_23 (by decide) rfl (fun ls hl => ?_)
        refine lv_goto (tgt := 4) hx hb dX10_bitsOfTold_26 (by decide) ?_
        exact ih4 i1_4 (i2_4 + 1) ls ri1_4 (by omega) (by omega) (by omega)  (lv_sub hl [1, 2, 0] rfl)
      refine x_iload_n hx hb hl 1 rfl dX10_bitsOfTold_17 rfl ?_
      refine x_iconst hx hb dX10_bitsOfTold_18 ?_
      refine x_iload_n hx hb hl 2 rfl dX10_bitsOfTold_19 rfl ?_
      refine lv_ishl hx hb dX10_bitsOfTold_20 ?_
      refine x_any (fun x4 rx4 => ?_)
      refine lv_ior hx hb dX10_bitsOfTold_21 ?_
      refine x_any (fun x5 rx5 => ?_)
      refine lv_istore_n (lv' := [(1, .int (xJ x5)), (0, .ref (h0 + ka)), (2, .int (xJ i2_4))]) hx hb dX10_bitsOfTold_22 rfl hl (by decide) rfl (fun ls hl => ?_)
      refine x_iinc (lv' := [(2, .int (xJ (i2_4 + 1))), (1, .int (xJ x5)), (0, .ref (h0 + ka))]) hx hb hl 2 rfl dX10_bitsOfTold_23 (by decide) rfl (fun ls hl => ?_)
      refine lv_goto (tgt := 4) hx hb dX10_bitsOfTold_26 (by decide) ?_
      exact ih4 x5 (i2_4 + 1) ls rx5 (by omega) (by omega) (by omega)  (lv_sub hl [2, 1, 0] rfl)
  exact L4 ((10 - 0 : Int).toNat + 1) 0 0 ls (by decide) (by decide) (by omega) (Nat.lt_succ_self _)  (lv_sub hl [2, 1, 0] rfl)
set_option maxHeartbeats 4000000 in
set_option maxRecDepth 100000 in
theorem c_X10_holds4 (l : Launch) (D : va_G) (g : xG) (T : Nat × Nat × Nat) (h0 : Nat) (s0 : xS) (hσ : xRR s0) (ka : Nat) (hka : ka < 310) (hns : nsC ka) (hca : ∀ σ : xS, xcel h0 g σ ka = .inl (g.1, 4, .inl (fun j => xJ (σ ka j)))) (x : Int) (rx : xR x) : Met l yX10_holds (xws yX10_holds cX10_holds 3 (some .boolean)) { frames := 0, cells := 0, slots := 0, locals := 0 } (xP [.ref (h0 + ka), .int (xJ x)] D g T h0 s0) (xQi D g h0 (fun r τ => s0 = τ ∧ (r = 0 ∨ r = 1))) 0 0 (xA h0) := by
  refine x_met hσ (by decide) (Nat.le_of_ble_eq_true rfl) ?_
  intro p e s m args below meth c hx hb hr hml hown hT hlk hnm hE hW ls hl
  have hl : lv_has ls 3 [(0, .ref (h0 + ka)), (1, .int (xJ x))] := hl
  obtain ⟨Q, eQ⟩ : ∃ Q, Q = MQ below (xQi D g h0 (fun r τ => s0 = τ ∧ (r = 0 ∨ r = 1))) args s 0 0 (xA h0) := ⟨_, rfl⟩
  rw [← eQ]
  generalize hHe : ([] : List Loc) = locs at hW ⊢
  obtain ⟨H, eH⟩ : ∃ H, H = s.heap := ⟨_, rfl⟩
  rw [← eH] at hW ⊢
  refine x_iconst hx hb dX10_holds_0 ?_
  refine lv_istore_n (lv' := [(2, .int (xJ 0)), (0, .ref (h0 + ka)), (1, .int (xJ x))]) hx hb dX10_holds_1 rfl hl (by decide) rfl (fun ls hl => ?_)
  have L2 : ∀ (fu : Nat) (i2_2 : Int) (ls : Array Slot), (xR i2_2) → (0 ≤ i2_2) → (4 - i2_2).toNat < fu → lv_has ls 3 [(0, .ref (h0 + ka)), (1, .int (xJ x)), (2, .int (xJ i2_2))] → W p l e { frames := 0, cells := 0, slots := 0, locals := 0 } s m args below meth c H locs 0 0 Q (F0 m 2 ls []) := by
    intro fu
    induction fu with
    | zero => intro i2_2 ls ri2_2 v2_0 hm; exact absurd hm (Nat.not_lt_zero _)
    | succ fu ih2 =>
      intro i2_2 ls ri2_2 v2_0 hm  hl
      refine x_iload_n hx hb hl 2 rfl dX10_holds_2 rfl ?_
      refine x_aload_n hx hb hl 0 rfl dX10_holds_3 rfl ?_
      refine x_alen (n := 4) (t0 := 0) hx hb hE hW (Or.inl hka) (hca _) rfl rfl dX10_holds_4 ?_
      refine x_icmp_ge (tgt := 23) hx hb ri2_2 (by decide) dX10_holds_5 (by decide) (fun c1 => ?_) (fun c1 => ?_)
      · skip
        refine x_iconst hx hb dX10_holds_23 ?_
        rw [eQ]
        exact x_zret hx hb hr hlk hW (by omega) ⟨rfl, by omega⟩ dX10_holds_24
      refine x_aload_n hx hb hl 0 rfl dX10_holds_8 rfl ?_
      refine x_iload_n hx hb hl 2 rfl dX10_holds_9 rfl ?_
      refine x_iald hx hb hE hW (Or.inl hka) (hca _) (by omega) (by decide) dX10_holds_10 ?_
      refine x_rd hW (fun x2 ex2 rx2 => ?_)
      refine x_iload_n hx hb hl 1 rfl dX10_holds_11 rfl ?_
      refine x_icmp_ne (tgt := 17) hx hb rx2 rx dX10_holds_12 (by decide) (fun c3 => ?_) (fun c3 => ?_)
      · skip
        refine x_iinc (lv' := [(2, .int (xJ (i2_2 + 1))), (0, .ref (h0 + ka)), (1, .int (xJ x))]) hx hb hl 2 rfl dX10_holds_17 (by decide) rfl (fun ls hl => ?_)
        refine lv_goto (tgt := 2) hx hb dX10_holds_20 (by decide) ?_
        exact ih2 (i2_2 + 1) ls (by omega) (by omega) (by omega)  (lv_sub hl [1, 2, 0] rfl)
      refine x_iconst hx hb dX10_holds_15 ?_
      rw [eQ]
      exact x_zret hx hb hr hlk hW (by omega) ⟨rfl, by omega⟩ dX10_holds_16
  exact L2 ((4 - 0 : Int).toNat + 1) 0 ls (by decide) (by omega) (Nat.lt_succ_self _)  (lv_sub hl [1, 2, 0] rfl)
set_option maxHeartbeats 4000000 in
set_option maxRecDepth 100000 in
theorem c_X10_bitsOfTold4 (l : Launch) (D : va_G) (g : xG) (T : Nat × Nat × Nat) (h0 : Nat) (s0 : xS) (hσ : xRR s0) (ka : Nat) (hka : ka < 310) (hns : nsC ka) (hca : ∀ σ : xS, xcel h0 g σ ka = .inl (g.1, 4, .inl (fun j => xJ (σ ka j)))) : Met l yX10_bitsOfTold (xws yX10_bitsOfTold cX10_bitsOfTold 3 (some .int)) { frames := 0, cells := 0, slots := 0, locals := 0 } (xP [.ref (h0 + ka)] D g T h0 s0) (xQi D g h0 (fun r τ => s0 = τ ∧ (True))) 0 0 (xA h0) := by
  refine x_met hσ (by decide) (Nat.le_of_ble_eq_true rfl) ?_
  intro p e s m args below meth c hx hb hr hml hown hT hlk hnm hE hW ls hl
  have hl : lv_has ls 3 [(0, .ref (h0 + ka))] := hl
  obtain ⟨Q, eQ⟩ : ∃ Q, Q = MQ below (xQi D g h0 (fun r τ => s0 = τ ∧ (True))) args s 0 0 (xA h0) := ⟨_, rfl⟩
  rw [← eQ]
  generalize hHe : ([] : List Loc) = locs at hW ⊢
  obtain ⟨H, eH⟩ : ∃ H, H = s.heap := ⟨_, rfl⟩
  rw [← eH] at hW ⊢
  refine x_iconst hx hb dX10_bitsOfTold_0 ?_
  refine lv_istore_n (lv' := [(1, .int (xJ 0)), (0, .ref (h0 + ka))]) hx hb dX10_bitsOfTold_1 rfl hl (by decide) rfl (fun ls hl => ?_)
  refine x_iconst hx hb dX10_bitsOfTold_2 ?_
  refine lv_istore_n (lv' := [(2, .int (xJ 0)), (1, .int (xJ 0)), (0, .ref (h0 + ka))]) hx hb dX10_bitsOfTold_3 rfl hl (by decide) rfl (fun ls hl => ?_)
  have L4 : ∀ (fu : Nat) (i1_4 : Int) (i2_4 : Int) (ls : Array Slot), (xR i1_4) → (xR i2_4) → (0 ≤ i2_4) → (4 - i2_4).toNat < fu → lv_has ls 3 [(0, .ref (h0 + ka)), (1, .int (xJ i1_4)), (2, .int (xJ i2_4))] → W p l e { frames := 0, cells := 0, slots := 0, locals := 0 } s m args below meth c H locs 0 0 Q (F0 m 4 ls []) := by
    intro fu
    induction fu with
    | zero => intro i1_4 i2_4 ls ri1_4 ri2_4 v4_0 hm; exact absurd hm (Nat.not_lt_zero _)
    | succ fu ih4 =>
      intro i1_4 i2_4 ls ri1_4 ri2_4 v4_0 hm  hl
      refine x_iload_n hx hb hl 2 rfl dX10_bitsOfTold_4 rfl ?_
      refine x_aload_n hx hb hl 0 rfl dX10_bitsOfTold_5 rfl ?_
      refine x_alen (n := 4) (t0 := 0) hx hb hE hW (Or.inl hka) (hca _) rfl rfl dX10_bitsOfTold_6 ?_
      refine x_icmp_ge (tgt := 29) hx hb ri2_4 (by decide) dX10_bitsOfTold_7 (by decide) (fun c1 => ?_) (fun c1 => ?_)
      · skip
        refine x_iload_n hx hb hl 1 rfl dX10_bitsOfTold_29 rfl ?_
        rw [eQ]
        exact x_iret hx hb hr hlk hW ri1_4 ⟨rfl, trivial⟩ dX10_bitsOfTold_30
      refine x_aload_n hx hb hl 0 rfl dX10_bitsOfTold_10 rfl ?_
      refine x_iload_n hx hb hl 2 rfl dX10_bitsOfTold_11 rfl ?_
      refine x_iald hx hb hE hW (Or.inl hka) (hca _) (by omega) (by decide) dX10_bitsOfTold_12 ?_
      refine x_rd hW (fun x2 ex2 rx2 => ?_)
      refine x_iconst hx hb dX10_bitsOfTold_13 ?_
      refine x_icmp_eq (tgt := 23) hx hb rx2 (by decide) dX10_bitsOfTold_14 (by decide) (fun c3 => ?_) (fun c3 => ?_)
      · skip
        refine x_iinc (lv' := [(2, .int (xJ (i2_4 + 1))), (0, .ref (h0 + ka)), (1, .int (xJ i1_4))]) hx hb hl 2 rfl dX10_bitsOfTold_23 (by decide) rfl (fun ls hl => ?_)
        refine lv_goto (tgt := 4) hx hb dX10_bitsOfTold_26 (by decide) ?_
        exact ih4 i1_4 (i2_4 + 1) ls ri1_4 (by omega) (by omega) (by omega)  (lv_sub hl [1, 2, 0] rfl)
      refine x_iload_n hx hb hl 1 rfl dX10_bitsOfTold_17 rfl ?_
      refine x_iconst hx hb dX10_bitsOfTold_18 ?_
      refine x_iload_n hx hb hl 2 rfl dX10_bitsOfTold_19 rfl ?_
      refine lv_ishl hx hb dX10_bitsOfTold_20 ?_
      refine x_any (fun x4 rx4 => ?_)
      refine lv_ior hx hb dX10_bitsOfTold_21 ?_
      refine x_any (fun x5 rx5 => ?_)
      refine lv_istore_n (lv' := [(1, .int (xJ x5)), (0, .ref (h0 + ka)), (2, .int (xJ i2_4))]) hx hb dX10_bitsOfTold_22 rfl hl (by decide) rfl (fun ls hl => ?_)
      refine x_iinc (lv' := [(2, .int (xJ (i2_4 + 1))), (1, .int (xJ x5)), (0, .ref (h0 + ka))]) hx hb hl 2 rfl dX10_bitsOfTold_23 (by decide) rfl (fun ls hl => ?_)
      refine lv_goto (tgt := 4) hx hb dX10_bitsOfTold_26 (by decide) ?_
      exact ih4 x5 (i2_4 + 1) ls rx5 (by omega) (by omega) (by omega)  (lv_sub hl [2, 1, 0] rfl)
  exact L4 ((4 - 0 : Int).toNat + 1) 0 0 ls (by decide) (by decide) (by omega) (Nat.lt_succ_self _)  (lv_sub hl [2, 1, 0] rfl)
set_option maxHeartbeats 4000000 in
set_option maxRecDepth 100000 in
theorem c_X10_isIn (l : Launch) (D : va_G) (g : xG) (T : Nat × Nat × Nat) (h0 : Nat) (s0 : xS) (hσ : xRR s0) (x : Int) (rx : xR x) (lo : Int) (rlo : xR lo) (hi : Int) (rhi : xR hi) : Met l yX10_isIn (xws yX10_isIn cX10_isIn 3 (some .boolean)) { frames := 0, cells := 0, slots := 0, locals := 0 } (xP [.int (xJ x), .int (xJ lo), .int (xJ hi)] D g T h0 s0) (xQi D g h0 (fun r τ => s0 = τ ∧ ((r = 1 ∧ lo ≤ x ∧ x ≤ hi) ∨ (r = 0 ∧ (x < lo ∨ hi < x))))) 0 0 (xA h0) := by
  refine x_met hσ (by decide) (Nat.le_of_ble_eq_true rfl) ?_
  intro p e s m args below meth c hx hb hr hml hown hT hlk hnm hE hW ls hl
  have hl : lv_has ls 3 [(0, .int (xJ x)), (1, .int (xJ lo)), (2, .int (xJ hi))] := hl
  obtain ⟨Q, eQ⟩ : ∃ Q, Q = MQ below (xQi D g h0 (fun r τ => s0 = τ ∧ ((r = 1 ∧ lo ≤ x ∧ x ≤ hi) ∨ (r = 0 ∧ (x < lo ∨ hi < x))))) args s 0 0 (xA h0) := ⟨_, rfl⟩
  rw [← eQ]
  generalize hHe : ([] : List Loc) = locs at hW ⊢
  obtain ⟨H, eH⟩ : ∃ H, H = s.heap := ⟨_, rfl⟩
  rw [← eH] at hW ⊢
  refine x_iload_n hx hb hl 0 rfl dX10_isIn_0 rfl ?_
  refine x_iload_n hx hb hl 1 rfl dX10_isIn_1 rfl ?_
  refine x_icmp_lt (tgt := 14) hx hb rx rlo dX10_isIn_2 (by decide) (fun c1 => ?_) (fun c1 => ?_)
  · skip
    refine x_iconst hx hb dX10_isIn_14 ?_
    rw [eQ]
    exact x_zret hx hb hr hlk hW (by omega) ⟨rfl, by omega⟩ dX10_isIn_15
  refine x_iload_n hx hb hl 0 rfl dX10_isIn_5 rfl ?_
  refine x_iload_n hx hb hl 2 rfl dX10_isIn_6 rfl ?_
  refine x_icmp_gt (tgt := 14) hx hb rx rhi dX10_isIn_7 (by decide) (fun c2 => ?_) (fun c2 => ?_)
  · skip
    refine x_iconst hx hb dX10_isIn_14 ?_
    rw [eQ]
    exact x_zret hx hb hr hlk hW (by omega) ⟨rfl, by omega⟩ dX10_isIn_15
  refine x_iconst hx hb dX10_isIn_10 ?_
  refine lv_goto (tgt := 15) hx hb dX10_isIn_11 (by decide) ?_
  rw [eQ]
  exact x_zret hx hb hr hlk hW (by omega) ⟨rfl, by omega⟩ dX10_isIn_15
set_option maxHeartbeats 4000000 in
set_option maxRecDepth 100000 in
theorem c_X7_layersAt (l : Launch) (D : va_G) (g : xG) (T : Nat × Nat × Nat) (h0 : Nat) (s0 : xS) (hσ : xRR s0) (x : Int) (rx : xR x) (p0 : IC s0) : Met l yX7_layersAt (xws yX7_layersAt cX7_layersAt 2 (some .int)) { frames := 1, cells := 0, slots := 0, locals := 20 } (xP [.ref (h0 + 130), .int (xJ x)] D g T h0 s0) (xQi D g h0 (fun r τ => s0 = τ ∧ (True))) 0 0 (xA h0) := by
  refine x_met hσ (by decide) (Nat.le_of_ble_eq_true rfl) ?_
  intro p e s m args below meth c hx hb hr hml hown hT hlk hnm hE hW ls hl
  have hl : lv_has ls 2 [(0, .ref (h0 + 130)), (1, .int (xJ x))] := hl
  obtain ⟨Q, eQ⟩ : ∃ Q, Q = MQ below (xQi D g h0 (fun r τ => s0 = τ ∧ (True))) args s 0 0 (xA h0) := ⟨_, rfl⟩
  rw [← eQ]
  generalize hHe : ([] : List Loc) = locs at hW ⊢
  obtain ⟨H, eH⟩ : ∃ H, H = s.heap := ⟨_, rfl⟩
  rw [← eH] at hW ⊢
  have k1_1 : s0 1 1 = s0 1 1 := rfl
  refine x_iload_n hx hb hl 1 rfl dX7_layersAt_0 rfl ?_
  refine x_goi (x_runSN (As := [.int (xJ x)]) hx hb hml hown hT hE hW hl.1 cf_X6_isSpot wq831 wn830 (c_X6_isSpot l D g T h0 s0 hW.2.1 x rx) ⟨rfl, rfl, ⟨by decide, by decide⟩, ⟨by decide, by decide⟩⟩ rfl rfl (Nat.le_of_ble_eq_true rfl) dX7_layersAt_1) hW (fun x1 s2 H locs rx1 hp3 hW => ?_)
  obtain ⟨es2, hp3⟩ := hp3
  subst es2
  have ghp3 := hp3
  refine x_if_eq (tgt := 16) hx hb rx1 dX7_layersAt_4 (by decide) (fun c4 => ?_) (fun c4 => ?_)
  · skip
    refine x_iconst hx hb dX7_layersAt_16 ?_
    rw [eQ]
    exact x_iret hx hb hr hlk hW (by decide) ⟨rfl, trivial⟩ dX7_layersAt_17
  refine x_aload_n hx hb hl 0 rfl dX7_layersAt_7 rfl ?_
  refine x_get (j := 0) (v := .ref (h0 + 131)) hx hb hown hT hE hW cls_X7 (Or.inl (by decide)) (so_130 h0 g _) (by decide) rfl wq330 dX7_layersAt_8 ?_
  refine x_iload_n hx hb hl 1 rfl dX7_layersAt_11 rfl ?_
  refine x_iald hx hb hE hW (Or.inl (by decide)) (sa_131 h0 g _) (by omega) (by decide) dX7_layersAt_12 ?_
  refine x_rd hW (fun x5 ex5 rx5 => ?_)
  refine lv_goto (tgt := 17) hx hb dX7_layersAt_13 (by decide) ?_
  rw [eQ]
  exact x_iret hx hb hr hlk hW rx5 ⟨rfl, trivial⟩ dX7_layersAt_17
set_option maxHeartbeats 4000000 in
set_option maxRecDepth 100000 in
theorem c_X7_clear (l : Launch) (D : va_G) (g : xG) (T : Nat × Nat × Nat) (h0 : Nat) (s0 : xS) (hσ : xRR s0) (p0 : IC s0) : Met l yX7_clear (xws yX7_clear cX7_clear 3 none) { frames := 1, cells := 0, slots := 0, locals := 20 } (xP [.ref (h0 + 130)] D g T h0 s0) (xQv D g h0 (fun τ => xFr (fun k => k = 130 ∨ k = 131 ∨ k = 133) s0 τ ∧ (((IC τ) ∧ True) ∧ (True)))) 0 0 (xA h0) := by
  refine x_met hσ (by decide) (Nat.le_of_ble_eq_true rfl) ?_
  intro p e s m args below meth c hx hb hr hml hown hT hlk hnm hE hW ls hl
  have hl : lv_has ls 3 [(0, .ref (h0 + 130))] := hl
  obtain ⟨Q, eQ⟩ : ∃ Q, Q = MQ below (xQv D g h0 (fun τ => xFr (fun k => k = 130 ∨ k = 131 ∨ k = 133) s0 τ ∧ (((IC τ) ∧ True) ∧ (True)))) args s 0 0 (xA h0) := ⟨_, rfl⟩
  rw [← eQ]
  generalize hHe : ([] : List Loc) = locs at hW ⊢
  obtain ⟨H, eH⟩ : ∃ H, H = s.heap := ⟨_, rfl⟩
  rw [← eH] at hW ⊢
  have hF : xFr (fun k => k = 130 ∨ k = 131 ∨ k = 133) s0 s0 := xFr.rf
  have k1_1 : s0 1 1 = s0 1 1 := rfl
  refine x_iconst hx hb dX7_clear_0 ?_
  refine lv_istore_n (lv' := [(1, .int (xJ 0)), (0, .ref (h0 + 130))]) hx hb dX7_clear_1 rfl hl (by decide) rfl (fun ls hl => ?_)
  have L2 : ∀ (fu : Nat) (i1_2 : Int) (s_2 : xS) (H : Heap) (locs : List Loc) (ls : Array Slot), (xR i1_2) → (xFr (fun k => k = 130 ∨ k = 131 ∨ k = 133) s0 s_2) → (IC s_2) → (s_2 1 1 = s0 1 1) → (0 ≤ i1_2) → (100 - i1_2).toNat < fu → xW D g h0 s H locs s_2 → lv_has ls 3 [(0, .ref (h0 + 130)), (1, .int (xJ i1_2))] → W p l e { frames := 1, cells := 0, slots := 0, locals := 20 } s m args below meth c H locs 0 0 Q (F0 m 2 ls []) := by
    intro fu
    induction fu with
    | zero => intro i1_2 s_2 H locs ls ri1_2 hF_2 q2_0 q2_1 v2_0 hm; exact absurd hm (Nat.not_lt_zero _)
    | succ fu ih2 =>
      intro i1_2 s_2 H locs ls ri1_2 hF_2 q2_0 q2_1 v2_0 hm hW hl
      refine x_iload_n hx hb hl 1 rfl dX7_clear_2 rfl ?_
      refine x_aload_n hx hb hl 0 rfl dX7_clear_3 rfl ?_
      refine x_get (j := 3) (v := .int (xJ (s_2 130 3))) hx hb hown hT hE hW cls_X7 (Or.inl (by decide)) (so_130 h0 g _) (by decide) rfl wq337 dX7_clear_4 ?_
      refine x_rd hW (fun x1 ex1 rx1 => ?_)
      have bx1 : 0 ≤ x1 ∧ x1 ≤ 100 := by rw [ex1]; exact IC.z q2_0
      refine x_icmp_ge (tgt := 50) hx hb ri1_2 rx1 dX7_clear_7 (by decide) (fun c2 => ?_) (fun c2 => ?_)
      · skip
        refine x_aload_n hx hb hl 0 rfl dX7_clear_50 rfl ?_
        refine x_iconst hx hb dX7_clear_51 ?_
        refine x_put (j := 3) hx hb hown hT hE hW cls_X7 (by decide) (fun σ => so_130 h0 g σ) (by decide) (st_X7_3 h0 s_2 130 0) (ln_X7_3 h0 _ _) wq337 rfl rfl rfl (by decide) dX7_clear_52 (fun H locs s3 es3 hW => ?_)
        have q4 : IC s3 := by rw [es3]; exact IC_130 q2_0 (by omega)
        have q5 : s3 1 1 = s0 1 1 := (show s3 1 1 = s_2 1 1 from by rw [es3, xU_k _ _ _ (by omega)]).trans q2_1
        have hF6 := hF_2.put es3 (by omega)
        rw [eQ]
        exact x_vret hx hb hr hlk hW ⟨hF6, ⟨q4, trivial⟩, trivial⟩ dX7_clear_55
      refine x_iload_n hx hb hl 1 rfl dX7_clear_10 rfl ?_
      refine x_bipush hx hb dX7_clear_11 (by decide) ?_
      refine x_icmp_ge (tgt := 50) hx hb ri1_2 (by decide) dX7_clear_13 (by decide) (fun c7 => ?_) (fun c7 => ?_)
      · skip
        refine x_aload_n hx hb hl 0 rfl dX7_clear_50 rfl ?_
        refine x_iconst hx hb dX7_clear_51 ?_
        refine x_put (j := 3) hx hb hown hT hE hW cls_X7 (by decide) (fun σ => so_130 h0 g σ) (by decide) (st_X7_3 h0 s_2 130 0) (ln_X7_3 h0 _ _) wq337 rfl rfl rfl (by decide) dX7_clear_52 (fun H locs s8 es8 hW => ?_)
        have q9 : IC s8 := by rw [es8]; exact IC_130 q2_0 (by omega)
        have q10 : s8 1 1 = s0 1 1 := (show s8 1 1 = s_2 1 1 from by rw [es8, xU_k _ _ _ (by omega)]).trans q2_1
        have hF11 := hF_2.put es8 (by omega)
        rw [eQ]
        exact x_vret hx hb hr hlk hW ⟨hF11, ⟨q9, trivial⟩, trivial⟩ dX7_clear_55
      refine x_aload_n hx hb hl 0 rfl dX7_clear_16 rfl ?_
      refine x_get (j := 1) (v := .ref (h0 + 132)) hx hb hown hT hE hW cls_X7 (Or.inl (by decide)) (so_130 h0 g _) (by decide) rfl wq331 dX7_clear_17 ?_
      refine x_iload_n hx hb hl 1 rfl dX7_clear_20 rfl ?_
      refine x_iald hx hb hE hW (Or.inl (by decide)) (sa_132 h0 g _) (by omega) (by decide) dX7_clear_21 ?_
      refine x_rd hW (fun x12 ex12 rx12 => ?_)
      refine lv_istore_n (lv' := [(2, .int (xJ x12)), (0, .ref (h0 + 130)), (1, .int (xJ i1_2))]) hx hb dX7_clear_22 rfl hl (by decide) rfl (fun ls hl => ?_)
      refine x_iload_n hx hb hl 0 rfl dX7_clear_23 rfl ?_
      refine x_goi (x_runSN (As := [.int (xJ x12)]) hx hb hml hown hT hE hW hl.1 cf_X6_isSpot wq831 wn830 (c_X6_isSpot l D g T h0 s_2 hW.2.1 x12 rx12) ⟨rfl, rfl, ⟨by decide, by decide⟩, ⟨by decide, by decide⟩⟩ rfl rfl (Nat.le_of_ble_eq_true rfl) dX7_clear_24) hW (fun x13 s14 H locs rx13 hp15 hW => ?_)
      obtain ⟨es14, hp15⟩ := hp15
      subst es14
      have ghp15 := hp15
      refine x_if_eq (tgt := 44) hx hb rx13 dX7_clear_27 (by decide) (fun c16 => ?_) (fun c16 => ?_)
      · skip
        refine x_iinc (lv' := [(1, .int (xJ (i1_2 + 1))), (2, .int (xJ x12)), (0, .ref (h0 + 130))]) hx hb hl 2 rfl dX7_clear_44 (by decide) rfl (fun ls hl => ?_)
        refine lv_goto (tgt := 2) hx hb dX7_clear_47 (by decide) ?_
        exact ih2 (i1_2 + 1) s_2 H locs ls (by omega) hF_2 q2_0 q2_1 (by omega) (by omega) hW (lv_sub hl [2, 0] rfl)
      refine x_aload_n hx hb hl 1 rfl dX7_clear_30 rfl ?_
      refine x_get (j := 0) (v := .ref (h0 + 131)) hx hb hown hT hE hW cls_X7 (Or.inl (by decide)) (so_130 h0 g _) (by decide) rfl wq330 dX7_clear_31 ?_
      refine x_iload_n hx hb hl 0 rfl dX7_clear_34 rfl ?_
      refine x_iconst hx hb dX7_clear_35 ?_
      refine x_iast hx hb hE hW (by decide) (fun σ => sa_131 h0 g σ) (by omega) (by decide) (by decide) dX7_clear_36 (fun H locs s17 es17 hW => ?_)
      have q18 : IC s17 := by rw [es17]; exact IC_o (by decide) q2_0
      have q19 : s17 1 1 = s0 1 1 := (show s17 1 1 = s_2 1 1 from by rw [es17, xU_k _ _ _ (by omega)]).trans q2_1
      have hF20 := hF_2.put es17 (by omega)
      refine x_aload_n hx hb hl 1 rfl dX7_clear_37 rfl ?_
      refine x_get (j := 2) (v := .ref (h0 + 133)) hx hb hown hT hE hW cls_X7 (Or.inl (by decide)) (so_130 h0 g _) (by decide) rfl wq335 dX7_clear_38 ?_
      refine x_iload_n hx hb hl 0 rfl dX7_clear_41 rfl ?_
      refine x_iconst hx hb dX7_clear_42 ?_
      refine x_zast hx hb hE hW (by decide) (fun σ => sa_133 h0 g σ) (by omega) (by decide) (by omega) dX7_clear_43 (fun H locs s21 es21 hW => ?_)
      have q22 : IC s21 := by rw [es21]; exact IC_o (by decide) q18
      have q23 : s21 1 1 = s0 1 1 := (show s21 1 1 = s17 1 1 from by rw [es21, xU_k _ _ _ (by omega)]).trans q19
      have hF24 := hF20.put es21 (by omega)
      refine x_iinc (lv' := [(1, .int (xJ (i1_2 + 1))), (2, .int (xJ x12)), (0, .ref (h0 + 130))]) hx hb hl 2 rfl dX7_clear_44 (by decide) rfl (fun ls hl => ?_)
      refine lv_goto (tgt := 2) hx hb dX7_clear_47 (by decide) ?_
      exact ih2 (i1_2 + 1) s21 H locs ls (by omega) hF24 q22 q23 (by omega) (by omega) hW (lv_sub hl [2, 0] rfl)
  exact L2 ((100 - 0 : Int).toNat + 1) 0 s0 H locs ls (by decide) hF p0 k1_1 (by omega) (Nat.lt_succ_self _) hW (lv_sub hl [1, 0] rfl)
set_option maxHeartbeats 4000000 in
set_option maxRecDepth 100000 in
theorem c_X7_fall (l : Launch) (D : va_G) (g : xG) (T : Nat × Nat × Nat) (h0 : Nat) (s0 : xS) (hσ : xRR s0) (a : Int) (ra : xR a) (b : Int) (rb : xR b) (q : Int) (rq : xR q) (p0 : IC s0) : Met l yX7_fall (xws yX7_fall cX7_fall 7 none) { frames := 1, cells := 0, slots := 0, locals := 23 } (xP [.ref (h0 + 130), .ref (h0 + 3), .int (xJ a), .int (xJ b), .int (xJ q)] D g T h0 s0) (xQv D g h0 (fun τ => xFr (fun k => k = 130 ∨ k = 131 ∨ k = 132) s0 τ ∧ (((IC τ) ∧ True) ∧ (True)))) 0 0 (xA h0) := by
  refine x_met hσ (by decide) (Nat.le_of_ble_eq_true rfl) ?_
  intro p e s m args below meth c hx hb hr hml hown hT hlk hnm hE hW ls hl
  have hl : lv_has ls 7 [(0, .ref (h0 + 130)), (1, .ref (h0 + 3)), (2, .int (xJ a)), (3, .int (xJ b)), (4, .int (xJ q))] := hl
  obtain ⟨Q, eQ⟩ : ∃ Q, Q = MQ below (xQv D g h0 (fun τ => xFr (fun k => k = 130 ∨ k = 131 ∨ k = 132) s0 τ ∧ (((IC τ) ∧ True) ∧ (True)))) args s 0 0 (xA h0) := ⟨_, rfl⟩
  rw [← eQ]
  generalize hHe : ([] : List Loc) = locs at hW ⊢
  obtain ⟨H, eH⟩ : ∃ H, H = s.heap := ⟨_, rfl⟩
  rw [← eH] at hW ⊢
  have hF : xFr (fun k => k = 130 ∨ k = 131 ∨ k = 132) s0 s0 := xFr.rf
  have k1_1 : s0 1 1 = s0 1 1 := rfl
  refine x_iload_n hx hb hl 2 rfl dX7_fall_0 rfl ?_
  refine lv_istore (lv' := [(5, .int (xJ a)), (0, .ref (h0 + 130)), (1, .ref (h0 + 3)), (2, .int (xJ a)), (3, .int (xJ b)), (4, .int (xJ q))]) hx hb dX7_fall_1 hl (by decide) rfl (fun ls hl => ?_)
  refine x_iconst hx hb dX7_fall_3 ?_
  refine lv_istore (lv' := [(6, .int (xJ 0)), (5, .int (xJ a)), (0, .ref (h0 + 130)), (1, .ref (h0 + 3)), (2, .int (xJ a)), (3, .int (xJ b)), (4, .int (xJ q))]) hx hb dX7_fall_4 hl (by decide) rfl (fun ls hl => ?_)
  have L6 : ∀ (fu : Nat) (i5_6 : Int) (i6_6 : Int) (s_6 : xS) (H : Heap) (locs : List Loc) (ls : Array Slot), (xR i5_6) → (xR i6_6) → (xFr (fun k => k = 130 ∨ k = 131 ∨ k = 132) s0 s_6) → (IC s_6) → (s_6 1 1 = s0 1 1) → (0 ≤ i6_6) → (q + 1 - i6_6).toNat < fu → xW D g h0 s H locs s_6 → lv_has ls 7 [(0, .ref (h0 + 130)), (1, .ref (h0 + 3)), (3, .int (xJ b)), (4, .int (xJ q)), (5, .int (xJ i5_6)), (6, .int (xJ i6_6))] → W p l e { frames := 1, cells := 0, slots := 0, locals := 23 } s m args below meth c H locs 0 0 Q (F0 m 6 ls []) := by
    intro fu
    induction fu with
    | zero => intro i5_6 i6_6 s_6 H locs ls ri5_6 ri6_6 hF_6 q6_0 q6_1 v6_0 hm; exact absurd hm (Nat.not_lt_zero _)
    | succ fu ih6 =>
      intro i5_6 i6_6 s_6 H locs ls ri5_6 ri6_6 hF_6 q6_0 q6_1 v6_0 hm hW hl
      refine x_iload hx hb hl 5 rfl dX7_fall_6 ?_
      refine x_iload hx hb hl 3 rfl dX7_fall_8 ?_
      refine x_icmp_ge (tgt := 97) hx hb ri6_6 rq dX7_fall_10 (by decide) (fun c1 => ?_) (fun c1 => ?_)
      · skip
        rw [eQ]
        exact x_vret hx hb hr hlk hW ⟨hF_6, ⟨q6_0, trivial⟩, trivial⟩ dX7_fall_97
      refine x_iload hx hb hl 4 rfl dX7_fall_13 ?_
      refine x_iload_n hx hb hl 2 rfl dX7_fall_15 rfl ?_
      refine x_goi (x_runSN (As := [.int (xJ i5_6), .int (xJ b)]) hx hb hml hown hT hE hW hl.1 cf_X6_beside wq784 wn841 (c_X6_beside l D g T h0 s_6 hW.2.1 i5_6 ri5_6 b rb) ⟨rfl, rfl, ⟨by decide, by decide⟩, ⟨by decide, by decide⟩⟩ rfl rfl (Nat.le_of_ble_eq_true rfl) dX7_fall_16) hW (fun x2 s3 H locs rx2 hp4 hW => ?_)
      obtain ⟨es3, hp4⟩ := hp4
      subst es3
      have ghp4 := hp4
      refine lv_istore (lv' := [(5, .int (xJ x2)), (0, .ref (h0 + 130)), (1, .ref (h0 + 3)), (3, .int (xJ b)), (4, .int (xJ q)), (6, .int (xJ i6_6))]) hx hb dX7_fall_19 hl (by decide) rfl (fun ls hl => ?_)
      refine x_aload_n hx hb hl 2 rfl dX7_fall_21 rfl ?_
      refine x_iload hx hb hl 0 rfl dX7_fall_22 ?_
      refine x_goi (x_runVN (As := [.int (xJ x2)]) hx hb hml hown hT hE hW hl.1 (Or.inl (by decide)) (so_3 h0 g _) rfl cf_X6_kindAt wq619 wq10 wn842 (c_X6_kindAt l D g T h0 s_6 hW.2.1 x2 rx2 q6_0) ⟨rfl, rfl, ⟨by decide, by decide⟩, ⟨by decide, by decide⟩⟩ rfl rfl (Nat.le_of_ble_eq_true rfl) dX7_fall_24) hW (fun x5 s6 H locs rx5 hp7 hW => ?_)
      obtain ⟨es6, hp7⟩ := hp7
      subst es6
      have ghp7 := hp7
      refine x_iconst hx hb dX7_fall_27 ?_
      refine x_icmp_eq (tgt := 39) hx hb rx5 (by decide) dX7_fall_28 (by decide) (fun c8 => ?_) (fun c8 => ?_)
      · skip
        rw [eQ]
        exact x_vret hx hb hr hlk hW ⟨hF_6, ⟨q6_0, trivial⟩, trivial⟩ dX7_fall_39
      refine x_iload hx hb hl 0 rfl dX7_fall_31 ?_
      refine x_goi (x_runSN (As := [.int (xJ x2)]) hx hb hml hown hT hE hW hl.1 cf_X6_isSpot wq831 wn830 (c_X6_isSpot l D g T h0 s_6 hW.2.1 x2 rx2) ⟨rfl, rfl, ⟨by decide, by decide⟩, ⟨by decide, by decide⟩⟩ rfl rfl (Nat.le_of_ble_eq_true rfl) dX7_fall_33) hW (fun x9 s10 H locs rx9 hp11 hW => ?_)
      obtain ⟨es10, hp11⟩ := hp11
      subst es10
      have ghp11 := hp11
      refine x_if_ne (tgt := 40) hx hb rx9 dX7_fall_36 (by decide) (fun c12 => ?_) (fun c12 => ?_)
      · skip
        refine x_aload_n hx hb hl 1 rfl dX7_fall_40 rfl ?_
        refine x_get (j := 0) (v := .ref (h0 + 131)) hx hb hown hT hE hW cls_X7 (Or.inl (by decide)) (so_130 h0 g _) (by decide) rfl wq330 dX7_fall_41 ?_
        refine x_iload hx hb hl 0 rfl dX7_fall_44 ?_
        refine x_iald hx hb hE hW (Or.inl (by decide)) (sa_131 h0 g _) (by omega) (by decide) dX7_fall_46 ?_
        refine x_rd hW (fun x13 ex13 rx13 => ?_)
        have J80 : ∀ (s_80 : xS) (H : Heap) (locs : List Loc) (ls : Array Slot), (xFr (fun k => k = 130 ∨ k = 131 ∨ k = 132) s0 s_80) → (IC s_80) → (s_80 1 1 = s0 1 1) → xW D g h0 s H locs s_80 → lv_has ls 7 [(0, .ref (h0 + 130)), (1, .ref (h0 + 3)), (3, .int (xJ b)), (4, .int (xJ q)), (5, .int (xJ x2)), (6, .int (xJ i6_6))] → W p l e { frames := 1, cells := 0, slots := 0, locals := 23 } s m args below meth c H locs 0 0 Q (F0 m 80 ls []) := by
          intro s_80 H locs ls hF_80 q80_0 q80_1 hW hl
          refine x_aload_n hx hb hl 0 rfl dX7_fall_80 rfl ?_
          refine x_get (j := 0) (v := .ref (h0 + 131)) hx hb hown hT hE hW cls_X7 (Or.inl (by decide)) (so_130 h0 g _) (by decide) rfl wq330 dX7_fall_81 ?_
          refine x_iload hx hb hl 4 rfl dX7_fall_84 ?_
          refine lv_dup2_11 hx hb dX7_fall_86 rfl rfl ?_
          refine x_iald hx hb hE hW (Or.inl (by decide)) (sa_131 h0 g _) (by omega) (by decide) dX7_fall_87 ?_
          refine x_rd hW (fun x14 ex14 rx14 => ?_)
          refine x_iconst hx hb dX7_fall_88 ?_
          refine x_iadd hx hb dX7_fall_89 ?_
          refine x_any (fun x15 rx15 => ?_)
          refine x_iast hx hb hE hW (by decide) (fun σ => sa_131 h0 g σ) (by omega) (by decide) rx15 dX7_fall_90 (fun H locs s16 es16 hW => ?_)
          have q17 : IC s16 := by rw [es16]; exact IC_o (by decide) q80_0
          have q18 : s16 1 1 = s0 1 1 := (show s16 1 1 = s_80 1 1 from by rw [es16, xU_k _ _ _ (by omega)]).trans q80_1
          have hF19 := hF_80.put es16 (by omega)
          refine x_iinc (lv' := [(6, .int (xJ (i6_6 + 1))), (0, .ref (h0 + 130)), (1, .ref (h0 + 3)), (3, .int (xJ b)), (4, .int (xJ q)), (5, .int (xJ x2))]) hx hb hl 5 rfl dX7_fall_91 (by decide) rfl (fun ls hl => ?_)
          refine lv_goto (tgt := 6) hx hb dX7_fall_94 (by decide) ?_
          exact ih6 x2 (i6_6 + 1) s16 H locs ls rx2 (by omega) hF19 q17 q18 (by omega) (by omega) hW (lv_sub hl [1, 2, 3, 4, 5, 0] rfl)
        refine x_if_ne (tgt := 80) hx hb rx13 dX7_fall_47 (by decide) (fun c20 => ?_) (fun c20 => ?_)
        · skip
          exact J80 s_6 H locs ls hF_6 q6_0 q6_1 hW (lv_sub hl [1, 2, 3, 4, 0, 5] rfl)
        refine x_aload_n hx hb hl 1 rfl dX7_fall_50 rfl ?_
        refine x_get (j := 3) (v := .int (xJ (s_6 130 3))) hx hb hown hT hE hW cls_X7 (Or.inl (by decide)) (so_130 h0 g _) (by decide) rfl wq337 dX7_fall_51 ?_
        refine x_rd hW (fun x21 ex21 rx21 => ?_)
        have bx21 : 0 ≤ x21 ∧ x21 ≤ 100 := by rw [ex21]; exact IC.z q6_0
        have q22 : s_6 130 3 = x21 := ex21.symm
        refine x_bipush hx hb dX7_fall_54 (by decide) ?_
        refine x_icmp_ge (tgt := 80) hx hb rx21 (by decide) dX7_fall_56 (by decide) (fun c23 => ?_) (fun c23 => ?_)
        · skip
          exact J80 s_6 H locs ls hF_6 q6_0 q6_1 hW (lv_sub hl [1, 2, 3, 4, 0, 5] rfl)
        refine x_aload_n hx hb hl 1 rfl dX7_fall_59 rfl ?_
        refine x_get (j := 1) (v := .ref (h0 + 132)) hx hb hown hT hE hW cls_X7 (Or.inl (by decide)) (so_130 h0 g _) (by decide) rfl wq331 dX7_fall_60 ?_
        refine x_aload_n hx hb hl 1 rfl dX7_fall_63 rfl ?_
        refine x_get (j := 3) (v := .int (xJ (s_6 130 3))) hx hb hown hT hE hW cls_X7 (Or.inl (by decide)) (so_130 h0 g _) (by decide) rfl wq337 dX7_fall_64 ?_
        refine x_rd hW (fun x24 ex24 rx24 => ?_)
        have bx24 : 0 ≤ x24 ∧ x24 ≤ 100 := by rw [ex24]; exact IC.z q6_0
        have fx24 : x24 = x21 := ex24.trans q22
        refine x_iload hx hb hl 0 rfl dX7_fall_67 ?_
        refine x_iast hx hb hE hW (by decide) (fun σ => sa_132 h0 g σ) (by omega) (by decide) rx2 dX7_fall_69 (fun H locs s25 es25 hW => ?_)
        have q26 : IC s25 := by rw [es25]; exact IC_o (by decide) q6_0
        have q27 : s25 1 1 = s0 1 1 := (show s25 1 1 = s_6 1 1 from by rw [es25, xU_k _ _ _ (by omega)]).trans q6_1
        have q28 : s25 130 3 = x21 := (show s25 130 3 = s_6 130 3 from by rw [es25, xU_k _ _ _ (by omega)]).trans q22
        have hF29 := hF_6.put es25 (by omega)
        refine x_aload_n hx hb hl 1 rfl dX7_fall_70 rfl ?_
        refine lv_dup hx hb dX7_fall_71 rfl ?_
        refine x_get (j := 3) (v := .int (xJ (s25 130 3))) hx hb hown hT hE hW cls_X7 (Or.inl (by decide)) (so_130 h0 g _) (by decide) rfl wq337 dX7_fall_72 ?_
        refine x_rd hW (fun x30 ex30 rx30 => ?_)
        have bx30 : 0 ≤ x30 ∧ x30 ≤ 100 := by rw [ex30]; exact IC.z q26
        have fx30 : x30 = x21 := ex30.trans q28
        refine x_iconst hx hb dX7_fall_75 ?_
        refine x_iadd hx hb dX7_fall_76 ?_
        refine x_put (j := 3) hx hb hown hT hE hW cls_X7 (by decide) (fun σ => so_130 h0 g σ) (by decide) (st_X7_3 h0 s25 130 (x30 + 1)) (ln_X7_3 h0 _ _) wq337 rfl rfl rfl (by omega) dX7_fall_77 (fun H locs s31 es31 hW => ?_)
        have q32 : IC s31 := by rw [es31]; exact IC_130 q26 (by omega)
        have q33 : s31 1 1 = s0 1 1 := (show s31 1 1 = s25 1 1 from by rw [es31, xU_k _ _ _ (by omega)]).trans q27
        have q34 : s31 130 3 = (x30 + 1) := by rw [es31, xU_s]
        have hF35 := hF29.put es31 (by omega)
        exact J80 s31 H locs ls hF35 q32 q33 hW (lv_sub hl [1, 2, 3, 4, 0, 5] rfl)
      rw [eQ]
      exact x_vret hx hb hr hlk hW ⟨hF_6, ⟨q6_0, trivial⟩, trivial⟩ dX7_fall_39
  exact L6 ((q + 1 - 0 : Int).toNat + 1) a 0 s0 H locs ls ra (by decide) hF p0 k1_1 (by omega) (Nat.lt_succ_self _) hW (lv_sub hl [2, 3, 5, 6, 1, 0] rfl)
set_option maxHeartbeats 4000000 in
set_option maxRecDepth 100000 in
theorem c_X7_howManyInMore (l : Launch) (D : va_G) (g : xG) (T : Nat × Nat × Nat) (h0 : Nat) (s0 : xS) (hσ : xRR s0) (p0 : IC s0) : Met l yX7_howManyInMore (xws yX7_howManyInMore cX7_howManyInMore 3 (some .int)) { frames := 2, cells := 0, slots := 0, locals := 41 } (xP [.ref (h0 + 130)] D g T h0 s0) (xQi D g h0 (fun r τ => s0 = τ ∧ (True))) 0 0 (xA h0) := by
  refine x_met hσ (by decide) (Nat.le_of_ble_eq_true rfl) ?_
  intro p e s m args below meth c hx hb hr hml hown hT hlk hnm hE hW ls hl
  have hl : lv_has ls 3 [(0, .ref (h0 + 130))] := hl
  obtain ⟨Q, eQ⟩ : ∃ Q, Q = MQ below (xQi D g h0 (fun r τ => s0 = τ ∧ (True))) args s 0 0 (xA h0) := ⟨_, rfl⟩
  rw [← eQ]
  generalize hHe : ([] : List Loc) = locs at hW ⊢
  obtain ⟨H, eH⟩ : ∃ H, H = s.heap := ⟨_, rfl⟩
  rw [← eH] at hW ⊢
  have k1_1 : s0 1 1 = s0 1 1 := rfl
  refine x_iconst hx hb dX7_howManyInMore_0 ?_
  refine lv_istore_n (lv' := [(1, .int (xJ 0)), (0, .ref (h0 + 130))]) hx hb dX7_howManyInMore_1 rfl hl (by decide) rfl (fun ls hl => ?_)
  refine x_iconst hx hb dX7_howManyInMore_2 ?_
  refine lv_istore_n (lv' := [(2, .int (xJ 0)), (1, .int (xJ 0)), (0, .ref (h0 + 130))]) hx hb dX7_howManyInMore_3 rfl hl (by decide) rfl (fun ls hl => ?_)
  have L4 : ∀ (fu : Nat) (i1_4 : Int) (i2_4 : Int) (H : Heap) (locs : List Loc) (ls : Array Slot), (xR i1_4) → (xR i2_4) → (0 ≤ i2_4) → (0 ≤ i1_4 ∧ i1_4 ≤ i2_4) → (100 - i2_4).toNat < fu → xW D g h0 s H locs s0 → lv_has ls 3 [(0, .ref (h0 + 130)), (1, .int (xJ i1_4)), (2, .int (xJ i2_4))] → W p l e { frames := 2, cells := 0, slots := 0, locals := 41 } s m args below meth c H locs 0 0 Q (F0 m 4 ls []) := by
    intro fu
    induction fu with
    | zero => intro i1_4 i2_4 H locs ls ri1_4 ri2_4 v4_0 v4_1 hm; exact absurd hm (Nat.not_lt_zero _)
    | succ fu ih4 =>
      intro i1_4 i2_4 H locs ls ri1_4 ri2_4 v4_0 v4_1 hm hW hl
      refine x_iload_n hx hb hl 2 rfl dX7_howManyInMore_4 rfl ?_
      refine x_aload_n hx hb hl 0 rfl dX7_howManyInMore_5 rfl ?_
      refine x_get (j := 3) (v := .int (xJ (s0 130 3))) hx hb hown hT hE hW cls_X7 (Or.inl (by decide)) (so_130 h0 g _) (by decide) rfl wq337 dX7_howManyInMore_6 ?_
      refine x_rd hW (fun x1 ex1 rx1 => ?_)
      have bx1 : 0 ≤ x1 ∧ x1 ≤ 100 := by rw [ex1]; exact IC.z p0
      refine x_icmp_ge (tgt := 46) hx hb ri2_4 rx1 dX7_howManyInMore_9 (by decide) (fun c2 => ?_) (fun c2 => ?_)
      · skip
        refine x_iload_n hx hb hl 1 rfl dX7_howManyInMore_46 rfl ?_
        rw [eQ]
        exact x_iret hx hb hr hlk hW ri1_4 ⟨rfl, trivial⟩ dX7_howManyInMore_47
      refine x_iload_n hx hb hl 2 rfl dX7_howManyInMore_12 rfl ?_
      refine x_bipush hx hb dX7_howManyInMore_13 (by decide) ?_
      refine x_icmp_ge (tgt := 46) hx hb ri2_4 (by decide) dX7_howManyInMore_15 (by decide) (fun c3 => ?_) (fun c3 => ?_)
      · skip
        refine x_iload_n hx hb hl 1 rfl dX7_howManyInMore_46 rfl ?_
        rw [eQ]
        exact x_iret hx hb hr hlk hW ri1_4 ⟨rfl, trivial⟩ dX7_howManyInMore_47
      refine x_iload_n hx hb hl 1 rfl dX7_howManyInMore_18 rfl ?_
      refine x_aload_n hx hb hl 0 rfl dX7_howManyInMore_19 rfl ?_
      refine x_aload_n hx hb hl 0 rfl dX7_howManyInMore_20 rfl ?_
      refine x_get (j := 1) (v := .ref (h0 + 132)) hx hb hown hT hE hW cls_X7 (Or.inl (by decide)) (so_130 h0 g _) (by decide) rfl wq331 dX7_howManyInMore_21 ?_
      refine x_iload_n hx hb hl 2 rfl dX7_howManyInMore_24 rfl ?_
      refine x_iald hx hb hE hW (Or.inl (by decide)) (sa_132 h0 g _) (by omega) (by decide) dX7_howManyInMore_25 ?_
      refine x_rd hW (fun x4 ex4 rx4 => ?_)
      refine x_goi (x_runV (As := [.int (xJ x4)]) hx hb hml hown hT hE hW hl.1 (Or.inl (by decide)) (so_130 h0 g _) rfl cf_X7_layersAt wq899 wq61 wq980 (c_X7_layersAt l D g T h0 s0 hW.2.1 x4 rx4 p0) ⟨rfl, rfl, ⟨by decide, by decide⟩, ⟨by decide, by decide⟩⟩ rfl rfl (Nat.le_of_ble_eq_true rfl) dX7_howManyInMore_26) hW (fun x5 s6 H locs rx5 hp7 hW => ?_)
      obtain ⟨es6, hp7⟩ := hp7
      subst es6
      have ghp7 := hp7
      refine x_iconst hx hb dX7_howManyInMore_29 ?_
      refine x_icmp_le (tgt := 37) hx hb rx5 (by decide) dX7_howManyInMore_30 (by decide) (fun c8 => ?_) (fun c8 => ?_)
      · skip
        refine x_iconst hx hb dX7_howManyInMore_37 ?_
        refine x_iadd hx hb dX7_howManyInMore_38 ?_
        refine x_nm (fun x9 ex9 => ?_)
        refine lv_istore_n (lv' := [(1, .int (xJ x9)), (0, .ref (h0 + 130)), (2, .int (xJ i2_4))]) hx hb dX7_howManyInMore_39 rfl hl (by decide) rfl (fun ls hl => ?_)
        refine x_iinc (lv' := [(2, .int (xJ (i2_4 + 1))), (1, .int (xJ x9)), (0, .ref (h0 + 130))]) hx hb hl 2 rfl dX7_howManyInMore_40 (by decide) rfl (fun ls hl => ?_)
        refine lv_goto (tgt := 4) hx hb dX7_howManyInMore_43 (by decide) ?_
        exact ih4 x9 (i2_4 + 1) H locs ls (by omega) (by omega) (by omega) (by omega) (by omega) hW (lv_sub hl [2, 1, 0] rfl)
      refine x_iconst hx hb dX7_howManyInMore_33 ?_
      refine lv_goto (tgt := 38) hx hb dX7_howManyInMore_34 (by decide) ?_
      refine x_iadd hx hb dX7_howManyInMore_38 ?_
      refine x_nm (fun x10 ex10 => ?_)
      refine lv_istore_n (lv' := [(1, .int (xJ x10)), (0, .ref (h0 + 130)), (2, .int (xJ i2_4))]) hx hb dX7_howManyInMore_39 rfl hl (by decide) rfl (fun ls hl => ?_)
      refine x_iinc (lv' := [(2, .int (xJ (i2_4 + 1))), (1, .int (xJ x10)), (0, .ref (h0 + 130))]) hx hb hl 2 rfl dX7_howManyInMore_40 (by decide) rfl (fun ls hl => ?_)
      refine lv_goto (tgt := 4) hx hb dX7_howManyInMore_43 (by decide) ?_
      exact ih4 x10 (i2_4 + 1) H locs ls (by omega) (by omega) (by omega) (by omega) (by omega) hW (lv_sub hl [2, 1, 0] rfl)
  exact L4 ((100 - 0 : Int).toNat + 1) 0 0 H locs ls (by decide) (by decide) (by omega) (by omega) (Nat.lt_succ_self _) hW (lv_sub hl [2, 1, 0] rfl)
set_option maxHeartbeats 4000000 in
set_option maxRecDepth 100000 in
theorem c_X0_judgesStep (l : Launch) (D : va_G) (g : xG) (T : Nat × Nat × Nat) (h0 : Nat) (s0 : xS) (hσ : xRR s0) (d : Nat) (hd : xDay d) (p0 : IC s0) : Met l yX0_judgesStep (xws yX0_judgesStep cX0_judgesStep 5 none) { frames := 2, cells := 0, slots := 0, locals := 43 } (xP [.ref (h0 + 128), .ref (h0 + d)] D g T h0 s0) (xQv D g h0 (fun τ => xFr (fun k => k = d + 1 ∨ k = d + 5) s0 τ ∧ (((IC τ) ∧ True) ∧ (True)))) 0 0 (xA h0) := by
  refine x_met hσ (by decide) (Nat.le_of_ble_eq_true rfl) ?_
  intro p e s m args below meth c hx hb hr hml hown hT hlk hnm hE hW ls hl
  have hl : lv_has ls 5 [(0, .ref (h0 + 128)), (1, .ref (h0 + d))] := hl
  obtain ⟨Q, eQ⟩ : ∃ Q, Q = MQ below (xQv D g h0 (fun τ => xFr (fun k => k = d + 1 ∨ k = d + 5) s0 τ ∧ (((IC τ) ∧ True) ∧ (True)))) args s 0 0 (xA h0) := ⟨_, rfl⟩
  rw [← eQ]
  generalize hHe : ([] : List Loc) = locs at hW ⊢
  obtain ⟨H, eH⟩ : ∃ H, H = s.heap := ⟨_, rfl⟩
  rw [← eH] at hW ⊢
  have hF : xFr (fun k => k = d + 1 ∨ k = d + 5) s0 s0 := xFr.rf
  have hbd : (136 ≤ d ∧ d < 209) ∧ (d ≤ 146 ∨ 158 ≤ d) := by unfold xDay at hd; omega
  have k1_1 : s0 1 1 = s0 1 1 := rfl
  have kd_7 : s0 d 7 = s0 d 7 := rfl
  refine x_iconst hx hb dX0_judgesStep_0 ?_
  refine lv_istore_n (lv' := [(2, .int (xJ 0)), (0, .ref (h0 + 128)), (1, .ref (h0 + d))]) hx hb dX0_judgesStep_1 rfl hl (by decide) rfl (fun ls hl => ?_)
  have L2 : ∀ (fu : Nat) (i2_2 : Int) (s_2 : xS) (H : Heap) (locs : List Loc) (ls : Array Slot), (xR i2_2) → (xFr (fun k => k = d + 1 ∨ k = d + 5) s0 s_2) → (IC s_2) → (s_2 1 1 = s0 1 1) → (s_2 d 7 = s0 d 7) → (0 ≤ i2_2) → (i2_2 ≤ 2) → (2 + 1 - i2_2).toNat < fu → xW D g h0 s H locs s_2 → lv_has ls 5 [(0, .ref (h0 + 128)), (1, .ref (h0 + d)), (2, .int (xJ i2_2))] → W p l e { frames := 2, cells := 0, slots := 0, locals := 43 } s m args below meth c H locs 0 0 Q (F0 m 2 ls []) := by
    intro fu
    induction fu with
    | zero => intro i2_2 s_2 H locs ls ri2_2 hF_2 q2_0 q2_1 q2_2 v2_0 v2_1 hm; exact absurd hm (Nat.not_lt_zero _)
    | succ fu ih2 =>
      intro i2_2 s_2 H locs ls ri2_2 hF_2 q2_0 q2_1 q2_2 v2_0 v2_1 hm hW hl
      refine x_iload_n hx hb hl 2 rfl dX0_judgesStep_2 rfl ?_
      refine x_iconst hx hb dX0_judgesStep_3 ?_
      refine x_icmp_ge (tgt := 85) hx hb ri2_2 (by decide) dX0_judgesStep_4 (by decide) (fun c1 => ?_) (fun c1 => ?_)
      · skip
        rw [eQ]
        exact x_vret hx hb hr hlk hW ⟨hF_2, ⟨q2_0, trivial⟩, trivial⟩ dX0_judgesStep_85
      refine x_aload_n hx hb hl 1 rfl dX0_judgesStep_7 rfl ?_
      refine x_iload_n hx hb hl 2 rfl dX0_judgesStep_8 rfl ?_
      refine x_goi (x_runVN (As := [.int (xJ i2_2)]) hx hb hml hown hT hE hW hl.1 (Or.inl (by omega)) (so_day0 h0 g hd _) rfl cf_X2_hasJudge wq773 wq37 wn771 (c_X2_hasJudge l D g T h0 s_2 hW.2.1 d hd i2_2 ri2_2 q2_0) ⟨rfl, rfl, ⟨by decide, by decide⟩, ⟨by decide, by decide⟩⟩ rfl rfl (Nat.le_of_ble_eq_true rfl) dX0_judgesStep_9) hW (fun x2 s3 H locs rx2 hp4 hW => ?_)
      obtain ⟨es3, hp4⟩ := hp4
      subst es3
      have ghp4 := hp4
      refine x_if_ne (tgt := 18) hx hb rx2 dX0_judgesStep_12 (by decide) (fun c5 => ?_) (fun c5 => ?_)
      · skip
        refine x_aload_n hx hb hl 1 rfl dX0_judgesStep_18 rfl ?_
        refine x_iload_n hx hb hl 2 rfl dX0_judgesStep_19 rfl ?_
        refine x_goi (x_runVN (As := [.int (xJ i2_2)]) hx hb hml hown hT hE hW hl.1 (Or.inl (by omega)) (so_day0 h0 g hd _) rfl cf_X2_takeStep wq777 wq38 wn775 (c_X2_takeStep l D g T h0 s_2 hW.2.1 d hd i2_2 ri2_2 q2_0) ⟨rfl, rfl, ⟨by decide, by decide⟩, ⟨by decide, by decide⟩⟩ rfl rfl (Nat.le_of_ble_eq_true rfl) dX0_judgesStep_20) hW (fun x6 s7 H locs rx6 hp8 hW => ?_)
        obtain ⟨fs7, hp8⟩ := hp8
        have hF9 := hF_2.call fs7 (fun k h => by omega)
        have q10 : s7 1 1 = s0 1 1 := (congrFun (fs7 _ (by omega)) _).trans q2_1
        have q11 : s7 d 7 = s0 d 7 := (congrFun (fs7 _ (by omega)) _).trans q2_2
        have ghp8 := hp8.2
        refine lv_istore_n (lv' := [(3, .int (xJ x6)), (0, .ref (h0 + 128)), (1, .ref (h0 + d)), (2, .int (xJ i2_2))]) hx hb dX0_judgesStep_23 rfl hl (by decide) rfl (fun ls hl => ?_)
        refine x_iload_n hx hb hl 0 rfl dX0_judgesStep_24 rfl ?_
        refine x_iconst hx hb dX0_judgesStep_25 ?_
        refine x_icmp_ne (tgt := 32) hx hb rx6 (by decide) dX0_judgesStep_26 (by decide) (fun c12 => ?_) (fun c12 => ?_)
        · skip
          refine x_aload_n hx hb hl 2 rfl dX0_judgesStep_32 rfl ?_
          refine x_getN (j := 0) (v := .ref (h0 + (d + 1))) hx hb hown hT hE hW cls_X2 (Or.inl (by omega)) (so_day0 h0 g hd _) (by decide) rfl wn384 dX0_judgesStep_33 ?_
          refine x_iload_n hx hb hl 3 rfl dX0_judgesStep_36 rfl ?_
          refine x_iald hx hb hE hW (Or.inl (by omega)) (sa_day1 h0 g hd _) (by omega) (by decide) dX0_judgesStep_37 ?_
          refine x_rd hW (fun x13 ex13 rx13 => ?_)
          refine x_iconst hx hb dX0_judgesStep_38 ?_
          refine x_iload_n hx hb hl 0 rfl dX0_judgesStep_39 rfl ?_
          refine x_imul hx hb dX0_judgesStep_40 ?_
          refine x_any (fun x14 rx14 => ?_)
          refine x_goi (x_runSN (As := [.int (xJ x13), .int (xJ x14)]) hx hb hml hown hT hE hW hl.1 cf_X6_beside wq784 wn783 (c_X6_beside l D g T h0 s7 hW.2.1 x13 rx13 x14 rx14) ⟨rfl, rfl, ⟨by decide, by decide⟩, ⟨by decide, by decide⟩⟩ rfl rfl (Nat.le_of_ble_eq_true rfl) dX0_judgesStep_41) hW (fun x15 s16 H locs rx15 hp17 hW => ?_)
          obtain ⟨es16, hp17⟩ := hp17
          subst es16
          have ghp17 := hp17
          refine lv_istore (lv' := [(4, .int (xJ x15)), (3, .int (xJ x6)), (0, .ref (h0 + 128)), (1, .ref (h0 + d)), (2, .int (xJ i2_2))]) hx hb dX0_judgesStep_44 hl (by decide) rfl (fun ls hl => ?_)
          refine x_aload_n hx hb hl 2 rfl dX0_judgesStep_46 rfl ?_
          refine x_get (j := 0) (v := .ref (h0 + 3)) hx hb hown hT hE hW cls_X0 (Or.inl (by decide)) (so_128 h0 g _) (by decide) rfl wq351 dX0_judgesStep_47 ?_
          refine x_iload hx hb hl 0 rfl dX0_judgesStep_50 ?_
          refine x_goi (x_runVN (As := [.int (xJ x15)]) hx hb hml hown hT hE hW hl.1 (Or.inl (by decide)) (so_3 h0 g _) rfl cf_X6_isOpen wq615 wq9 wn790 (c_X6_isOpen l D g T h0 s7 hW.2.1 x15 rx15 hp8.1.1) ⟨rfl, rfl, ⟨by decide, by decide⟩, ⟨by decide, by decide⟩⟩ rfl rfl (Nat.le_of_ble_eq_true rfl) dX0_judgesStep_52) hW (fun x18 s19 H locs rx18 hp20 hW => ?_)
          obtain ⟨es19, hp20⟩ := hp20
          subst es19
          have ghp20 := hp20
          refine x_if_eq (tgt := 79) hx hb rx18 dX0_judgesStep_55 (by decide) (fun c21 => ?_) (fun c21 => ?_)
          · skip
            refine x_iinc (lv' := [(2, .int (xJ (i2_2 + 1))), (4, .int (xJ x15)), (3, .int (xJ x6)), (0, .ref (h0 + 128)), (1, .ref (h0 + d))]) hx hb hl 4 rfl dX0_judgesStep_79 (by decide) rfl (fun ls hl => ?_)
            refine lv_goto (tgt := 2) hx hb dX0_judgesStep_82 (by decide) ?_
            exact ih2 (i2_2 + 1) s7 H locs ls (by omega) hF9 hp8.1.1 q10 q11 (by omega) (by omega) (by omega) hW (lv_sub hl [3, 4, 0] rfl)
          refine x_aload_n hx hb hl 3 rfl dX0_judgesStep_58 rfl ?_
          refine x_getN (j := 0) (v := .ref (h0 + (d + 1))) hx hb hown hT hE hW cls_X2 (Or.inl (by omega)) (so_day0 h0 g hd _) (by decide) rfl wn384 dX0_judgesStep_59 ?_
          refine x_iconst hx hb dX0_judgesStep_62 ?_
          refine x_iload_n hx hb hl 4 rfl dX0_judgesStep_63 rfl ?_
          refine x_isub hx hb dX0_judgesStep_64 ?_
          refine x_iald hx hb hE hW (Or.inl (by omega)) (sa_day1 h0 g hd _) (by omega) (by decide) dX0_judgesStep_65 ?_
          refine x_rd hW (fun x22 ex22 rx22 => ?_)
          refine x_iload hx hb hl 0 rfl dX0_judgesStep_66 ?_
          refine x_icmp_eq (tgt := 79) hx hb rx22 rx15 dX0_judgesStep_68 (by decide) (fun c23 => ?_) (fun c23 => ?_)
          · skip
            refine x_iinc (lv' := [(2, .int (xJ (i2_2 + 1))), (4, .int (xJ x15)), (3, .int (xJ x6)), (0, .ref (h0 + 128)), (1, .ref (h0 + d))]) hx hb hl 4 rfl dX0_judgesStep_79 (by decide) rfl (fun ls hl => ?_)
            refine lv_goto (tgt := 2) hx hb dX0_judgesStep_82 (by decide) ?_
            exact ih2 (i2_2 + 1) s7 H locs ls (by omega) hF9 hp8.1.1 q10 q11 (by omega) (by omega) (by omega) hW (lv_sub hl [3, 4, 0] rfl)
          refine x_aload_n hx hb hl 3 rfl dX0_judgesStep_71 rfl ?_
          refine x_getN (j := 0) (v := .ref (h0 + (d + 1))) hx hb hown hT hE hW cls_X2 (Or.inl (by omega)) (so_day0 h0 g hd _) (by decide) rfl wn384 dX0_judgesStep_72 ?_
          refine x_iload_n hx hb hl 4 rfl dX0_judgesStep_75 rfl ?_
          refine x_iload hx hb hl 0 rfl dX0_judgesStep_76 ?_
          refine x_iast hx hb hE hW (by omega) (fun σ => sa_day1 h0 g hd σ) (by omega) (by decide) rx15 dX0_judgesStep_78 (fun H locs s24 es24 hW => ?_)
          have q25 : s24 1 1 = s0 1 1 := (show s24 1 1 = s7 1 1 from by rw [es24, xU_k _ _ _ (by omega)]).trans q10
          have q26 : s24 d 7 = s0 d 7 := (show s24 d 7 = s7 d 7 from by rw [es24, xU_k _ _ _ (by omega)]).trans q11
          have q27 : IC s24 := by rw [es24]; exact IC_o (nsC_d hd (by decide)) hp8.1.1
          have hF28 := hF9.put es24 (by omega)
          refine x_iinc (lv' := [(2, .int (xJ (i2_2 + 1))), (4, .int (xJ x15)), (3, .int (xJ x6)), (0, .ref (h0 + 128)), (1, .ref (h0 + d))]) hx hb hl 4 rfl dX0_judgesStep_79 (by decide) rfl (fun ls hl => ?_)
          refine lv_goto (tgt := 2) hx hb dX0_judgesStep_82 (by decide) ?_
          exact ih2 (i2_2 + 1) s24 H locs ls (by omega) hF28 q27 q25 q26 (by omega) (by omega) (by omega) hW (lv_sub hl [3, 4, 0] rfl)
        refine lv_goto (tgt := 79) hx hb dX0_judgesStep_29 (by decide) ?_
        refine x_iinc (lv' := [(2, .int (xJ (i2_2 + 1))), (3, .int (xJ x6)), (0, .ref (h0 + 128)), (1, .ref (h0 + d))]) hx hb hl 3 rfl dX0_judgesStep_79 (by decide) rfl (fun ls hl => ?_)
        refine lv_goto (tgt := 2) hx hb dX0_judgesStep_82 (by decide) ?_
        exact ih2 (i2_2 + 1) s7 H locs ls (by omega) hF9 hp8.1.1 q10 q11 (by omega) (by omega) (by omega) hW (lv_sub hl [2, 3, 0] rfl)
      refine lv_goto (tgt := 79) hx hb dX0_judgesStep_15 (by decide) ?_
      refine x_iinc (lv' := [(2, .int (xJ (i2_2 + 1))), (0, .ref (h0 + 128)), (1, .ref (h0 + d))]) hx hb hl 2 rfl dX0_judgesStep_79 (by decide) rfl (fun ls hl => ?_)
      refine lv_goto (tgt := 2) hx hb dX0_judgesStep_82 (by decide) ?_
      exact ih2 (i2_2 + 1) s_2 H locs ls (by omega) hF_2 q2_0 q2_1 q2_2 (by omega) (by omega) (by omega) hW (lv_sub hl [1, 2, 0] rfl)
  exact L2 ((2 + 1 - 0 : Int).toNat + 1) 0 s0 H locs ls (by decide) hF p0 k1_1 kd_7 (by omega) (by omega) (Nat.lt_succ_self _) hW (lv_sub hl [1, 2, 0] rfl)
set_option maxHeartbeats 4000000 in
set_option maxRecDepth 100000 in
theorem c_X0_castOfLamp (l : Launch) (D : va_G) (g : xG) (T : Nat × Nat × Nat) (h0 : Nat) (s0 : xS) (hσ : xRR s0) (d : Nat) (hd : xDay d) (a : Int) (ra : xR a) (p0 : IC s0) : Met l yX0_castOfLamp (xws yX0_castOfLamp cX0_castOfLamp 6 none) { frames := 2, cells := 0, slots := 0, locals := 49 } (xP [.ref (h0 + 128), .ref (h0 + d), .int (xJ a)] D g T h0 s0) (xQv D g h0 (fun τ => xFr (fun k => k = 130 ∨ k = 131 ∨ k = 132) s0 τ ∧ (((IC τ) ∧ True) ∧ (True)))) 0 0 (xA h0) := by
  refine x_met hσ (by decide) (Nat.le_of_ble_eq_true rfl) ?_
  intro p e s m args below meth c hx hb hr hml hown hT hlk hnm hE hW ls hl
  have hl : lv_has ls 6 [(0, .ref (h0 + 128)), (1, .ref (h0 + d)), (2, .int (xJ a))] := hl
  obtain ⟨Q, eQ⟩ : ∃ Q, Q = MQ below (xQv D g h0 (fun τ => xFr (fun k => k = 130 ∨ k = 131 ∨ k = 132) s0 τ ∧ (((IC τ) ∧ True) ∧ (True)))) args s 0 0 (xA h0) := ⟨_, rfl⟩
  rw [← eQ]
  generalize hHe : ([] : List Loc) = locs at hW ⊢
  obtain ⟨H, eH⟩ : ∃ H, H = s.heap := ⟨_, rfl⟩
  rw [← eH] at hW ⊢
  have hF : xFr (fun k => k = 130 ∨ k = 131 ∨ k = 132) s0 s0 := xFr.rf
  have hbd : (136 ≤ d ∧ d < 209) ∧ (d ≤ 146 ∨ 158 ≤ d) := by unfold xDay at hd; omega
  have k1_1 : s0 1 1 = s0 1 1 := rfl
  refine x_iconst hx hb dX0_castOfLamp_0 ?_
  refine lv_istore_n (lv' := [(3, .int (xJ 0)), (0, .ref (h0 + 128)), (1, .ref (h0 + d)), (2, .int (xJ a))]) hx hb dX0_castOfLamp_1 rfl hl (by decide) rfl (fun ls hl => ?_)
  have L2 : ∀ (fu : Nat) (i3_2 : Int) (s_2 : xS) (H : Heap) (locs : List Loc) (ls : Array Slot), (xR i3_2) → (xFr (fun k => k = 130 ∨ k = 131 ∨ k = 132) s0 s_2) → (IC s_2) → (s_2 1 1 = s0 1 1) → (0 ≤ i3_2) → (8 - i3_2).toNat < fu → xW D g h0 s H locs s_2 → lv_has ls 6 [(0, .ref (h0 + 128)), (1, .ref (h0 + d)), (2, .int (xJ a)), (3, .int (xJ i3_2))] → W p l e { frames := 2, cells := 0, slots := 0, locals := 49 } s m args below meth c H locs 0 0 Q (F0 m 2 ls []) := by
    intro fu
    induction fu with
    | zero => intro i3_2 s_2 H locs ls ri3_2 hF_2 q2_0 q2_1 v2_0 hm; exact absurd hm (Nat.not_lt_zero _)
    | succ fu ih2 =>
      intro i3_2 s_2 H locs ls ri3_2 hF_2 q2_0 q2_1 v2_0 hm hW hl
      refine x_iload_n hx hb hl 3 rfl dX0_castOfLamp_2 rfl ?_
      refine va_getsN hx hb hE.2.2.1.1 hW.2.2 hown (xE_N hE wn847 rfl) (fun _ h9 => h9) dX0_castOfLamp_3 ?_
      refine va_tlen (v := xJ 8) hx hb hE.2.2.1.2 hW.2.2 rfl dX0_castOfLamp_6 ?_
      refine x_icmp_ge (tgt := 90) hx hb ri3_2 (by decide) dX0_castOfLamp_7 (by decide) (fun c1 => ?_) (fun c1 => ?_)
      · skip
        rw [eQ]
        exact x_vret hx hb hr hlk hW ⟨hF_2, ⟨q2_0, trivial⟩, trivial⟩ dX0_castOfLamp_90
      refine x_iload_n hx hb hl 2 rfl dX0_castOfLamp_10 rfl ?_
      refine x_iconst hx hb dX0_castOfLamp_11 ?_
      refine x_icmp_eq (tgt := 90) hx hb ra (by decide) dX0_castOfLamp_12 (by decide) (fun c2 => ?_) (fun c2 => ?_)
      · skip
        rw [eQ]
        exact x_vret hx hb hr hlk hW ⟨hF_2, ⟨q2_0, trivial⟩, trivial⟩ dX0_castOfLamp_90
      refine x_iload_n hx hb hl 2 rfl dX0_castOfLamp_15 rfl ?_
      refine lv_istore (lv' := [(4, .int (xJ a)), (0, .ref (h0 + 128)), (1, .ref (h0 + d)), (2, .int (xJ a)), (3, .int (xJ i3_2))]) hx hb dX0_castOfLamp_16 hl (by decide) rfl (fun ls hl => ?_)
      refine x_iconst hx hb dX0_castOfLamp_18 ?_
      refine lv_istore (lv' := [(5, .int (xJ 0)), (4, .int (xJ a)), (0, .ref (h0 + 128)), (1, .ref (h0 + d)), (2, .int (xJ a)), (3, .int (xJ i3_2))]) hx hb dX0_castOfLamp_19 hl (by decide) rfl (fun ls hl => ?_)
      have L21 : ∀ (fu : Nat) (i4_21 : Int) (i5_21 : Int) (s_21 : xS) (H : Heap) (locs : List Loc) (ls : Array Slot), (xR i4_21) → (xR i5_21) → (xFr (fun k => k = 130 ∨ k = 131 ∨ k = 132) s0 s_21) → (IC s_21) → (s_21 1 1 = s0 1 1) → (0 ≤ i5_21) → (4 - i5_21).toNat < fu → xW D g h0 s H locs s_21 → lv_has ls 6 [(0, .ref (h0 + 128)), (1, .ref (h0 + d)), (2, .int (xJ a)), (3, .int (xJ i3_2)), (4, .int (xJ i4_21)), (5, .int (xJ i5_21))] → W p l e { frames := 2, cells := 0, slots := 0, locals := 49 } s m args below meth c H locs 0 0 Q (F0 m 21 ls []) := by
        intro fu
        induction fu with
        | zero => intro i4_21 i5_21 s_21 H locs ls ri4_21 ri5_21 hF_21 q21_0 q21_1 v21_0 hm; exact absurd hm (Nat.not_lt_zero _)
        | succ fu ih21 =>
          intro i4_21 i5_21 s_21 H locs ls ri4_21 ri5_21 hF_21 q21_0 q21_1 v21_0 hm hW hl
          refine x_iload hx hb hl 5 rfl dX0_castOfLamp_21 ?_
          refine x_iconst hx hb dX0_castOfLamp_23 ?_
          refine x_icmp_ge (tgt := 84) hx hb ri5_21 (by decide) dX0_castOfLamp_24 (by decide) (fun c3 => ?_) (fun c3 => ?_)
          · skip
            refine x_iinc (lv' := [(3, .int (xJ (i3_2 + 1))), (0, .ref (h0 + 128)), (1, .ref (h0 + d)), (2, .int (xJ a)), (4, .int (xJ i4_21)), (5, .int (xJ i5_21))]) hx hb hl 3 rfl dX0_castOfLamp_84 (by decide) rfl (fun ls hl => ?_)
            refine lv_goto (tgt := 2) hx hb dX0_castOfLamp_87 (by decide) ?_
            exact ih2 (i3_2 + 1) s_21 H locs ls (by omega) hF_21 q21_0 q21_1 (by omega) (by omega) hW (lv_sub hl [1, 2, 3, 0] rfl)
          refine x_iload hx hb hl 4 rfl dX0_castOfLamp_27 ?_
          refine x_iload_n hx hb hl 3 rfl dX0_castOfLamp_29 rfl ?_
          refine x_goi (x_runSN (As := [.int (xJ i4_21), .int (xJ i3_2)]) hx hb hml hown hT hE hW hl.1 cf_X6_beside wq784 wn783 (c_X6_beside l D g T h0 s_21 hW.2.1 i4_21 ri4_21 i3_2 ri3_2) ⟨rfl, rfl, ⟨by decide, by decide⟩, ⟨by decide, by decide⟩⟩ rfl rfl (Nat.le_of_ble_eq_true rfl) dX0_castOfLamp_30) hW (fun x4 s5 H locs rx4 hp6 hW => ?_)
          obtain ⟨es5, hp6⟩ := hp6
          subst es5
          have ghp6 := hp6
          refine lv_istore (lv' := [(4, .int (xJ x4)), (0, .ref (h0 + 128)), (1, .ref (h0 + d)), (2, .int (xJ a)), (3, .int (xJ i3_2)), (5, .int (xJ i5_21))]) hx hb dX0_castOfLamp_33 hl (by decide) rfl (fun ls hl => ?_)
          refine x_aload_n hx hb hl 1 rfl dX0_castOfLamp_35 rfl ?_
          refine x_get (j := 0) (v := .ref (h0 + 3)) hx hb hown hT hE hW cls_X0 (Or.inl (by decide)) (so_128 h0 g _) (by decide) rfl wq351 dX0_castOfLamp_36 ?_
          refine x_iload hx hb hl 0 rfl dX0_castOfLamp_39 ?_
          refine x_goi (x_runVN (As := [.int (xJ x4)]) hx hb hml hown hT hE hW hl.1 (Or.inl (by decide)) (so_3 h0 g _) rfl cf_X6_kindAt wq619 wq10 wn848 (c_X6_kindAt l D g T h0 s_21 hW.2.1 x4 rx4 q21_0) ⟨rfl, rfl, ⟨by decide, by decide⟩, ⟨by decide, by decide⟩⟩ rfl rfl (Nat.le_of_ble_eq_true rfl) dX0_castOfLamp_41) hW (fun x7 s8 H locs rx7 hp9 hW => ?_)
          obtain ⟨es8, hp9⟩ := hp9
          subst es8
          have ghp9 := hp9
          refine x_iconst hx hb dX0_castOfLamp_44 ?_
          refine x_icmp_ne (tgt := 51) hx hb rx7 (by decide) dX0_castOfLamp_45 (by decide) (fun c10 => ?_) (fun c10 => ?_)
          · skip
            refine x_aload_n hx hb hl 2 rfl dX0_castOfLamp_51 rfl ?_
            refine x_getN (j := 0) (v := .ref (h0 + (d + 1))) hx hb hown hT hE hW cls_X2 (Or.inl (by omega)) (so_day0 h0 g hd _) (by decide) rfl wn384 dX0_castOfLamp_52 ?_
            refine x_iload hx hb hl 0 rfl dX0_castOfLamp_55 ?_
            refine x_goi (x_runSN (As := [.ref (h0 + (d + 1)), .int (xJ x4)]) hx hb hml hown hT hE hW hl.1 cf_X10_holds wq850 wn849 (c_X10_holds2 l D g T h0 s_21 hW.2.1 (d + 1) (by omega) (nsC_d hd (by decide)) (fun σ => sa_day1 h0 g hd σ) x4 rx4) ⟨rfl, rfl, ⟨by decide, by decide⟩, ⟨by decide, by decide⟩⟩ rfl rfl (Nat.le_of_ble_eq_true rfl) dX0_castOfLamp_57) hW (fun x11 s12 H locs rx11 hp13 hW => ?_)
            obtain ⟨es12, hp13⟩ := hp13
            subst es12
            have ghp13 := hp13
            refine x_if_eq (tgt := 78) hx hb rx11 dX0_castOfLamp_60 (by decide) (fun c14 => ?_) (fun c14 => ?_)
            · skip
              refine x_iinc (lv' := [(5, .int (xJ (i5_21 + 1))), (4, .int (xJ x4)), (0, .ref (h0 + 128)), (1, .ref (h0 + d)), (2, .int (xJ a)), (3, .int (xJ i3_2))]) hx hb hl 5 rfl dX0_castOfLamp_78 (by decide) rfl (fun ls hl => ?_)
              refine lv_goto (tgt := 21) hx hb dX0_castOfLamp_81 (by decide) ?_
              exact ih21 x4 (i5_21 + 1) s_21 H locs ls rx4 (by omega) hF_21 q21_0 q21_1 (by omega) (by omega) hW (lv_sub hl [2, 3, 4, 5, 1, 0] rfl)
            refine x_aload_n hx hb hl 1 rfl dX0_castOfLamp_63 rfl ?_
            refine x_get (j := 3) (v := .ref (h0 + 130)) hx hb hown hT hE hW cls_X0 (Or.inl (by decide)) (so_128 h0 g _) (by decide) rfl wq357 dX0_castOfLamp_64 ?_
            refine x_aload_n hx hb hl 1 rfl dX0_castOfLamp_67 rfl ?_
            refine x_get (j := 0) (v := .ref (h0 + 3)) hx hb hown hT hE hW cls_X0 (Or.inl (by decide)) (so_128 h0 g _) (by decide) rfl wq351 dX0_castOfLamp_68 ?_
            refine x_iload hx hb hl 0 rfl dX0_castOfLamp_71 ?_
            refine x_iload_n hx hb hl 4 rfl dX0_castOfLamp_73 rfl ?_
            refine x_iconst hx hb dX0_castOfLamp_74 ?_
            refine x_gov (x_runVN (As := [.ref (h0 + 3), .int (xJ x4), .int (xJ i3_2), .int (xJ 2)]) hx hb hml hown hT hE hW hl.1 (Or.inl (by decide)) (so_130 h0 g _) rfl cf_X7_fall wq839 wq49 wn837 (c_X7_fall l D g T h0 s_21 hW.2.1 x4 rx4 i3_2 ri3_2 2 (by decide) q21_0) ⟨rfl, rfl, ⟨by decide, by decide⟩, ⟨by decide, by decide⟩⟩ rfl rfl (Nat.le_of_ble_eq_true rfl) dX0_castOfLamp_75) hW (fun s16 H locs hp17 hW => ?_)
            obtain ⟨fs16, hp17⟩ := hp17
            have hF18 := hF_21.call fs16 (fun k h => by omega)
            have q19 : s16 1 1 = s0 1 1 := (congrFun (fs16 _ (by omega)) _).trans q21_1
            have ghp17 := hp17.2
            refine x_iinc (lv' := [(5, .int (xJ (i5_21 + 1))), (4, .int (xJ x4)), (0, .ref (h0 + 128)), (1, .ref (h0 + d)), (2, .int (xJ a)), (3, .int (xJ i3_2))]) hx hb hl 5 rfl dX0_castOfLamp_78 (by decide) rfl (fun ls hl => ?_)
            refine lv_goto (tgt := 21) hx hb dX0_castOfLamp_81 (by decide) ?_
            exact ih21 x4 (i5_21 + 1) s16 H locs ls rx4 (by omega) hF18 hp17.1.1 q19 (by omega) (by omega) hW (lv_sub hl [2, 3, 4, 5, 1, 0] rfl)
          refine lv_goto (tgt := 84) hx hb dX0_castOfLamp_48 (by decide) ?_
          refine x_iinc (lv' := [(3, .int (xJ (i3_2 + 1))), (4, .int (xJ x4)), (0, .ref (h0 + 128)), (1, .ref (h0 + d)), (2, .int (xJ a)), (5, .int (xJ i5_21))]) hx hb hl 4 rfl dX0_castOfLamp_84 (by decide) rfl (fun ls hl => ?_)
          refine lv_goto (tgt := 2) hx hb dX0_castOfLamp_87 (by decide) ?_
          exact ih2 (i3_2 + 1) s_21 H locs ls (by omega) hF_21 q21_0 q21_1 (by omega) (by omega) hW (lv_sub hl [2, 3, 4, 0] rfl)
      exact L21 ((4 - 0 : Int).toNat + 1) a 0 s_2 H locs ls ra (by decide) hF_2 q2_0 q2_1 (by omega) (Nat.lt_succ_self _) hW (lv_sub hl [2, 3, 4, 5, 1, 0] rfl)
  exact L2 ((8 - 0 : Int).toNat + 1) 0 s0 H locs ls (by decide) hF p0 k1_1 (by omega) (Nat.lt_succ_self _) hW (lv_sub hl [1, 2, 3, 0] rfl)
set_option maxHeartbeats 4000000 in
set_option maxRecDepth 100000 in
theorem c_X0_cast (l : Launch) (D : va_G) (g : xG) (T : Nat × Nat × Nat) (h0 : Nat) (s0 : xS) (hσ : xRR s0) (d : Nat) (hd : xDay d) (a : Int) (ra : xR a) (b : Int) (rb : xR b) (p0 : IC s0) : Met l yX0_cast (xws yX0_cast cX0_cast 6 none) { frames := 3, cells := 0, slots := 0, locals := 74 } (xP [.ref (h0 + 128), .ref (h0 + d), .int (xJ a), .int (xJ b)] D g T h0 s0) (xQv D g h0 (fun τ => xFr (fun k => k = 115 ∨ k = 116 ∨ k = 130 ∨ k = 131 ∨ k = 132 ∨ k = 133) s0 τ ∧ (((IC τ) ∧ True) ∧ (True)))) 0 0 (xA h0) := by
  refine x_met hσ (by decide) (Nat.le_of_ble_eq_true rfl) ?_
  intro p e s m args below meth c hx hb hr hml hown hT hlk hnm hE hW ls hl
  have hl : lv_has ls 6 [(0, .ref (h0 + 128)), (1, .ref (h0 + d)), (2, .int (xJ a)), (3, .int (xJ b))] := hl
  obtain ⟨Q, eQ⟩ : ∃ Q, Q = MQ below (xQv D g h0 (fun τ => xFr (fun k => k = 115 ∨ k = 116 ∨ k = 130 ∨ k = 131 ∨ k = 132 ∨ k = 133) s0 τ ∧ (((IC τ) ∧ True) ∧ (True)))) args s 0 0 (xA h0) := ⟨_, rfl⟩
  rw [← eQ]
  generalize hHe : ([] : List Loc) = locs at hW ⊢
  obtain ⟨H, eH⟩ : ∃ H, H = s.heap := ⟨_, rfl⟩
  rw [← eH] at hW ⊢
  have hF : xFr (fun k => k = 115 ∨ k = 116 ∨ k = 130 ∨ k = 131 ∨ k = 132 ∨ k = 133) s0 s0 := xFr.rf
  have hbd : (136 ≤ d ∧ d < 209) ∧ (d ≤ 146 ∨ 158 ≤ d) := by unfold xDay at hd; omega
  have k1_1 : s0 1 1 = s0 1 1 := rfl
  refine x_aload_n hx hb hl 0 rfl dX0_cast_0 rfl ?_
  refine x_get (j := 3) (v := .ref (h0 + 130)) hx hb hown hT hE hW cls_X0 (Or.inl (by decide)) (so_128 h0 g _) (by decide) rfl wq357 dX0_cast_1 ?_
  refine x_gov (x_runVN (As := []) hx hb hml hown hT hE hW hl.1 (Or.inl (by decide)) (so_130 h0 g _) rfl cf_X7_clear wq828 wq47 wn826 (c_X7_clear l D g T h0 s0 hW.2.1 p0) ⟨rfl, rfl, ⟨by decide, by decide⟩, ⟨by decide, by decide⟩⟩ rfl rfl (Nat.le_of_ble_eq_true rfl) dX0_cast_4) hW (fun s2 H locs hp3 hW => ?_)
  obtain ⟨fs2, hp3⟩ := hp3
  have hF4 := hF.call fs2 (fun k h => by omega)
  have q5 : s2 1 1 = s0 1 1 := (congrFun (fs2 _ (by omega)) _).trans k1_1
  have ghp3 := hp3.2
  refine x_iconst hx hb dX0_cast_7 ?_
  refine lv_istore (lv' := [(4, .int (xJ 0)), (0, .ref (h0 + 128)), (1, .ref (h0 + d)), (2, .int (xJ a)), (3, .int (xJ b))]) hx hb dX0_cast_8 hl (by decide) rfl (fun ls hl => ?_)
  have L10 : ∀ (fu : Nat) (i4_10 : Int) (s_10 : xS) (H : Heap) (locs : List Loc) (ls : Array Slot), (xR i4_10) → (xFr (fun k => k = 115 ∨ k = 116 ∨ k = 130 ∨ k = 131 ∨ k = 132 ∨ k = 133) s0 s_10) → (s_10 1 1 = s0 1 1) → (IC s_10) → (0 ≤ i4_10) → (i4_10 ≤ 2) → (2 + 1 - i4_10).toNat < fu → xW D g h0 s H locs s_10 → lv_has ls 6 [(0, .ref (h0 + 128)), (1, .ref (h0 + d)), (2, .int (xJ a)), (3, .int (xJ b)), (4, .int (xJ i4_10))] → W p l e { frames := 3, cells := 0, slots := 0, locals := 74 } s m args below meth c H locs 0 0 Q (F0 m 10 ls []) := by
    intro fu
    induction fu with
    | zero => intro i4_10 s_10 H locs ls ri4_10 hF_10 q10_0 q10_1 v10_0 v10_1 hm; exact absurd hm (Nat.not_lt_zero _)
    | succ fu ih10 =>
      intro i4_10 s_10 H locs ls ri4_10 hF_10 q10_0 q10_1 v10_0 v10_1 hm hW hl
      refine x_iload hx hb hl 4 rfl dX0_cast_10 ?_
      refine x_iconst hx hb dX0_cast_12 ?_
      refine x_icmp_ge (tgt := 97) hx hb ri4_10 (by decide) dX0_cast_13 (by decide) (fun c6 => ?_) (fun c6 => ?_)
      · skip
        refine x_iconst hx hb dX0_cast_97 ?_
        refine lv_istore (lv' := [(4, .int (xJ 0)), (0, .ref (h0 + 128)), (1, .ref (h0 + d)), (2, .int (xJ a)), (3, .int (xJ b))]) hx hb dX0_cast_98 hl (by decide) rfl (fun ls hl => ?_)
        have L100 : ∀ (fu : Nat) (i4_100 : Int) (s_100 : xS) (H : Heap) (locs : List Loc) (ls : Array Slot), (xR i4_100) → (xFr (fun k => k = 115 ∨ k = 116 ∨ k = 130 ∨ k = 131 ∨ k = 132 ∨ k = 133) s0 s_100) → (s_100 1 1 = s0 1 1) → (IC s_100) → (0 ≤ i4_100) → (i4_100 ≤ 4) → (4 + 1 - i4_100).toNat < fu → xW D g h0 s H locs s_100 → lv_has ls 6 [(0, .ref (h0 + 128)), (1, .ref (h0 + d)), (3, .int (xJ b)), (4, .int (xJ i4_100))] → W p l e { frames := 3, cells := 0, slots := 0, locals := 74 } s m args below meth c H locs 0 0 Q (F0 m 100 ls []) := by
          intro fu
          induction fu with
          | zero => intro i4_100 s_100 H locs ls ri4_100 hF_100 q100_0 q100_1 v100_0 v100_1 hm; exact absurd hm (Nat.not_lt_zero _)
          | succ fu ih100 =>
            intro i4_100 s_100 H locs ls ri4_100 hF_100 q100_0 q100_1 v100_0 v100_1 hm hW hl
            refine x_iload hx hb hl 3 rfl dX0_cast_100 ?_
            refine x_iconst hx hb dX0_cast_102 ?_
            refine x_icmp_ge (tgt := 128) hx hb ri4_100 (by decide) dX0_cast_103 (by decide) (fun c7 => ?_) (fun c7 => ?_)
            · skip
              rw [eQ]
              exact x_vret hx hb hr hlk hW ⟨hF_100, ⟨q100_1, trivial⟩, trivial⟩ dX0_cast_128
            refine x_iload_n hx hb hl 2 rfl dX0_cast_106 rfl ?_
            refine x_if_eq (tgt := 128) hx hb rb dX0_cast_107 (by decide) (fun c8 => ?_) (fun c8 => ?_)
            · skip
              rw [eQ]
              exact x_vret hx hb hr hlk hW ⟨hF_100, ⟨q100_1, trivial⟩, trivial⟩ dX0_cast_128
            refine x_aload_n hx hb hl 0 rfl dX0_cast_110 rfl ?_
            refine x_aload_n hx hb hl 1 rfl dX0_cast_111 rfl ?_
            refine x_aload_n hx hb hl 0 rfl dX0_cast_112 rfl ?_
            refine x_get (j := 2) (v := .ref (h0 + 129)) hx hb hown hT hE hW cls_X0 (Or.inl (by decide)) (so_128 h0 g _) (by decide) rfl wq355 dX0_cast_113 ?_
            refine x_iload hx hb hl 3 rfl dX0_cast_116 ?_
            refine x_iald hx hb hE hW (Or.inl (by decide)) (sa_129 h0 g _) (by omega) (by decide) dX0_cast_118 ?_
            refine x_rd hW (fun x9 ex9 rx9 => ?_)
            refine x_gov (x_runV (As := [.ref (h0 + d), .int (xJ x9)]) hx hb hml hown hT hE hW hl.1 (Or.inl (by decide)) (so_128 h0 g _) rfl cf_X0_castOfLamp wq845 wq50 wq843 (c_X0_castOfLamp l D g T h0 s_100 hW.2.1 d hd x9 rx9 q100_1) ⟨rfl, rfl, ⟨by decide, by decide⟩, ⟨by decide, by decide⟩⟩ rfl rfl (Nat.le_of_ble_eq_true rfl) dX0_cast_119) hW (fun s11 H locs hp12 hW => ?_)
            obtain ⟨fs11, hp12⟩ := hp12
            have hF13 := hF_100.call fs11 (fun k h => by omega)
            have q14 : s11 1 1 = s0 1 1 := (congrFun (fs11 _ (by omega)) _).trans q100_0
            have ghp12 := hp12.2
            refine x_iinc (lv' := [(4, .int (xJ (i4_100 + 1))), (0, .ref (h0 + 128)), (1, .ref (h0 + d)), (3, .int (xJ b))]) hx hb hl 3 rfl dX0_cast_122 (by decide) rfl (fun ls hl => ?_)
            refine lv_goto (tgt := 100) hx hb dX0_cast_125 (by decide) ?_
            exact ih100 (i4_100 + 1) s11 H locs ls (by omega) hF13 q14 hp12.1.1 (by omega) (by omega) (by omega) hW (lv_sub hl [1, 2, 3, 0] rfl)
        exact L100 ((4 + 1 - 0 : Int).toNat + 1) 0 s_10 H locs ls (by decide) hF_10 q10_0 q10_1 (by omega) (by omega) (Nat.lt_succ_self _) hW (lv_sub hl [1, 2, 4, 0] rfl)
      refine x_iload_n hx hb hl 2 rfl dX0_cast_16 rfl ?_
      refine x_if_eq (tgt := 97) hx hb ra dX0_cast_17 (by decide) (fun c15 => ?_) (fun c15 => ?_)
      · skip
        refine x_iconst hx hb dX0_cast_97 ?_
        refine lv_istore (lv' := [(4, .int (xJ 0)), (0, .ref (h0 + 128)), (1, .ref (h0 + d)), (2, .int (xJ a)), (3, .int (xJ b))]) hx hb dX0_cast_98 hl (by decide) rfl (fun ls hl => ?_)
        have L100 : ∀ (fu : Nat) (i4_100 : Int) (s_100 : xS) (H : Heap) (locs : List Loc) (ls : Array Slot), (xR i4_100) → (xFr (fun k => k = 115 ∨ k = 116 ∨ k = 130 ∨ k = 131 ∨ k = 132 ∨ k = 133) s0 s_100) → (s_100 1 1 = s0 1 1) → (IC s_100) → (0 ≤ i4_100) → (i4_100 ≤ 4) → (4 + 1 - i4_100).toNat < fu → xW D g h0 s H locs s_100 → lv_has ls 6 [(0, .ref (h0 + 128)), (1, .ref (h0 + d)), (3, .int (xJ b)), (4, .int (xJ i4_100))] → W p l e { frames := 3, cells := 0, slots := 0, locals := 74 } s m args below meth c H locs 0 0 Q (F0 m 100 ls []) := by
          intro fu
          induction fu with
          | zero => intro i4_100 s_100 H locs ls ri4_100 hF_100 q100_0 q100_1 v100_0 v100_1 hm; exact absurd hm (Nat.not_lt_zero _)
          | succ fu ih100 =>
            intro i4_100 s_100 H locs ls ri4_100 hF_100 q100_0 q100_1 v100_0 v100_1 hm hW hl
            refine x_iload hx hb hl 3 rfl dX0_cast_100 ?_
            refine x_iconst hx hb dX0_cast_102 ?_
            refine x_icmp_ge (tgt := 128) hx hb ri4_100 (by decide) dX0_cast_103 (by decide) (fun c16 => ?_) (fun c16 => ?_)
            · skip
              rw [eQ]
              exact x_vret hx hb hr hlk hW ⟨hF_100, ⟨q100_1, trivial⟩, trivial⟩ dX0_cast_128
            refine x_iload_n hx hb hl 2 rfl dX0_cast_106 rfl ?_
            refine x_if_eq (tgt := 128) hx hb rb dX0_cast_107 (by decide) (fun c17 => ?_) (fun c17 => ?_)
            · skip
              rw [eQ]
              exact x_vret hx hb hr hlk hW ⟨hF_100, ⟨q100_1, trivial⟩, trivial⟩ dX0_cast_128
            refine x_aload_n hx hb hl 0 rfl dX0_cast_110 rfl ?_
            refine x_aload_n hx hb hl 1 rfl dX0_cast_111 rfl ?_
            refine x_aload_n hx hb hl 0 rfl dX0_cast_112 rfl ?_
            refine x_get (j := 2) (v := .ref (h0 + 129)) hx hb hown hT hE hW cls_X0 (Or.inl (by decide)) (so_128 h0 g _) (by decide) rfl wq355 dX0_cast_113 ?_
            refine x_iload hx hb hl 3 rfl dX0_cast_116 ?_
            refine x_iald hx hb hE hW (Or.inl (by decide)) (sa_129 h0 g _) (by omega) (by decide) dX0_cast_118 ?_
            refine x_rd hW (fun x18 ex18 rx18 => ?_)
            refine x_gov (x_runV (As := [.ref (h0 + d), .int (xJ x18)]) hx hb hml hown hT hE hW hl.1 (Or.inl (by decide)) (so_128 h0 g _) rfl cf_X0_castOfLamp wq845 wq50 wq843 (c_X0_castOfLamp l D g T h0 s_100 hW.2.1 d hd x18 rx18 q100_1) ⟨rfl, rfl, ⟨by decide, by decide⟩, ⟨by decide, by decide⟩⟩ rfl rfl (Nat.le_of_ble_eq_true rfl) dX0_cast_119) hW (fun s20 H locs hp21 hW => ?_)
            obtain ⟨fs20, hp21⟩ := hp21
            have hF22 := hF_100.call fs20 (fun k h => by omega)
            have q23 : s20 1 1 = s0 1 1 := (congrFun (fs20 _ (by omega)) _).trans q100_0
            have ghp21 := hp21.2
            refine x_iinc (lv' := [(4, .int (xJ (i4_100 + 1))), (0, .ref (h0 + 128)), (1, .ref (h0 + d)), (3, .int (xJ b))]) hx hb hl 3 rfl dX0_cast_122 (by decide) rfl (fun ls hl => ?_)
            refine lv_goto (tgt := 100) hx hb dX0_cast_125 (by decide) ?_
            exact ih100 (i4_100 + 1) s20 H locs ls (by omega) hF22 q23 hp21.1.1 (by omega) (by omega) (by omega) hW (lv_sub hl [1, 2, 3, 0] rfl)
        exact L100 ((4 + 1 - 0 : Int).toNat + 1) 0 s_10 H locs ls (by decide) hF_10 q10_0 q10_1 (by omega) (by omega) (Nat.lt_succ_self _) hW (lv_sub hl [1, 2, 4, 0] rfl)
      refine x_aload_n hx hb hl 1 rfl dX0_cast_20 rfl ?_
      refine x_iload hx hb hl 4 rfl dX0_cast_21 ?_
      refine x_goi (x_runVN (As := [.int (xJ i4_10)]) hx hb hml hown hT hE hW hl.1 (Or.inl (by omega)) (so_day0 h0 g hd _) rfl cf_X2_hasJudge wq773 wq37 wn771 (c_X2_hasJudge l D g T h0 s_10 hW.2.1 d hd i4_10 ri4_10 q10_1) ⟨rfl, rfl, ⟨by decide, by decide⟩, ⟨by decide, by decide⟩⟩ rfl rfl (Nat.le_of_ble_eq_true rfl) dX0_cast_23) hW (fun x24 s25 H locs rx24 hp26 hW => ?_)
      obtain ⟨es25, hp26⟩ := hp26
      subst es25
      have ghp26 := hp26
      refine x_if_eq (tgt := 91) hx hb rx24 dX0_cast_26 (by decide) (fun c27 => ?_) (fun c27 => ?_)
      · skip
        refine x_iinc (lv' := [(4, .int (xJ (i4_10 + 1))), (0, .ref (h0 + 128)), (1, .ref (h0 + d)), (2, .int (xJ a)), (3, .int (xJ b))]) hx hb hl 4 rfl dX0_cast_91 (by decide) rfl (fun ls hl => ?_)
        refine lv_goto (tgt := 10) hx hb dX0_cast_94 (by decide) ?_
        exact ih10 (i4_10 + 1) s_10 H locs ls (by omega) hF_10 q10_0 q10_1 (by omega) (by omega) (by omega) hW (lv_sub hl [1, 2, 3, 4, 0] rfl)
      refine x_aload_n hx hb hl 0 rfl dX0_cast_29 rfl ?_
      refine x_get (j := 1) (v := .ref (h0 + 109)) hx hb hown hT hE hW cls_X0 (Or.inl (by decide)) (so_128 h0 g _) (by decide) rfl wq354 dX0_cast_30 ?_
      refine x_aload_n hx hb hl 1 rfl dX0_cast_33 rfl ?_
      refine x_getN (j := 7) (v := .int (xJ (s_10 d 7))) hx hb hown hT hE hW cls_X2 (Or.inl (by omega)) (so_day0 h0 g hd _) (by decide) rfl wn402 dX0_cast_34 ?_
      refine x_rd hW (fun x28 ex28 rx28 => ?_)
      have bx28 : 0 ≤ x28 ∧ x28 ≤ 9999 := by rw [ex28]; exact IC.m q10_1 hd
      refine x_iload hx hb hl 4 rfl dX0_cast_37 ?_
      refine x_gov (x_runVN (As := [.int (xJ x28), .int (xJ i4_10)]) hx hb hml hown hT hE hW hl.1 (Or.inl (by decide)) (so_109 h0 g _) rfl cf_X4_tellJudge wq835 wq48 wn833 (c_X4_tellJudge l D g T h0 s_10 hW.2.1 x28 rx28 i4_10 ri4_10 q10_1) ⟨rfl, rfl, ⟨by decide, by decide⟩, ⟨by decide, by decide⟩⟩ rfl rfl (Nat.le_of_ble_eq_true rfl) dX0_cast_39) hW (fun s30 H locs hp31 hW => ?_)
      obtain ⟨fs30, hp31⟩ := hp31
      have hF32 := hF_10.call fs30 (fun k h => by omega)
      have q33 : s30 1 1 = s0 1 1 := (congrFun (fs30 _ (by omega)) _).trans q10_0
      have ghp31 := hp31.2
      refine x_aload_n hx hb hl 0 rfl dX0_cast_42 rfl ?_
      refine x_get (j := 1) (v := .ref (h0 + 109)) hx hb hown hT hE hW cls_X0 (Or.inl (by decide)) (so_128 h0 g _) (by decide) rfl wq354 dX0_cast_43 ?_
      refine x_bipush hx hb dX0_cast_46 (by decide) ?_
      refine x_bipush hx hb dX0_cast_48 (by decide) ?_
      refine x_goi (x_runVN (As := [.int (xJ 108), .int (xJ 9)]) hx hb hml hown hT hE hW hl.1 (Or.inl (by decide)) (so_109 h0 g _) rfl cf_X4_worthOf wq802 wq42 wn800 (c_X4_worthOf l D g T h0 s30 hW.2.1 108 (by decide) 9 (by decide) hp31.1.1) ⟨rfl, rfl, ⟨by decide, by decide⟩, ⟨by decide, by decide⟩⟩ rfl rfl (Nat.le_of_ble_eq_true rfl) dX0_cast_50) hW (fun x34 s35 H locs rx34 hp36 hW => ?_)
      obtain ⟨fs35, hp36⟩ := hp36
      have hF37 := hF32.call fs35 (fun k h => by omega)
      have q38 : s35 1 1 = s0 1 1 := (congrFun (fs35 _ (by omega)) _).trans q33
      have ghp36 := hp36.2
      refine lv_istore (lv' := [(5, .int (xJ x34)), (0, .ref (h0 + 128)), (1, .ref (h0 + d)), (2, .int (xJ a)), (3, .int (xJ b)), (4, .int (xJ i4_10))]) hx hb dX0_cast_53 hl (by decide) rfl (fun ls hl => ?_)
      refine x_iload hx hb hl 0 rfl dX0_cast_55 ?_
      refine x_if_le (tgt := 91) hx hb rx34 dX0_cast_57 (by decide) (fun c39 => ?_) (fun c39 => ?_)
      · skip
        refine x_iinc (lv' := [(4, .int (xJ (i4_10 + 1))), (5, .int (xJ x34)), (0, .ref (h0 + 128)), (1, .ref (h0 + d)), (2, .int (xJ a)), (3, .int (xJ b))]) hx hb hl 5 rfl dX0_cast_91 (by decide) rfl (fun ls hl => ?_)
        refine lv_goto (tgt := 10) hx hb dX0_cast_94 (by decide) ?_
        exact ih10 (i4_10 + 1) s35 H locs ls (by omega) hF37 q38 hp36.1.1 (by omega) (by omega) (by omega) hW (lv_sub hl [2, 3, 4, 5, 0] rfl)
      refine x_aload_n hx hb hl 1 rfl dX0_cast_60 rfl ?_
      refine x_get (j := 3) (v := .ref (h0 + 130)) hx hb hown hT hE hW cls_X0 (Or.inl (by decide)) (so_128 h0 g _) (by decide) rfl wq357 dX0_cast_61 ?_
      refine x_aload_n hx hb hl 1 rfl dX0_cast_64 rfl ?_
      refine x_get (j := 0) (v := .ref (h0 + 3)) hx hb hown hT hE hW cls_X0 (Or.inl (by decide)) (so_128 h0 g _) (by decide) rfl wq351 dX0_cast_65 ?_
      refine x_aload_n hx hb hl 2 rfl dX0_cast_68 rfl ?_
      refine x_getN (j := 0) (v := .ref (h0 + (d + 1))) hx hb hown hT hE hW cls_X2 (Or.inl (by omega)) (so_day0 h0 g hd _) (by decide) rfl wn384 dX0_cast_69 ?_
      refine x_iload hx hb hl 5 rfl dX0_cast_72 ?_
      refine x_iald hx hb hE hW (Or.inl (by omega)) (sa_day1 h0 g hd _) (by omega) (by decide) dX0_cast_74 ?_
      refine x_rd hW (fun x40 ex40 rx40 => ?_)
      refine x_aload_n hx hb hl 1 rfl dX0_cast_75 rfl ?_
      refine x_get (j := 1) (v := .ref (h0 + 109)) hx hb hown hT hE hW cls_X0 (Or.inl (by decide)) (so_128 h0 g _) (by decide) rfl wq354 dX0_cast_76 ?_
      refine x_bipush hx hb dX0_cast_79 (by decide) ?_
      refine x_bipush hx hb dX0_cast_81 (by decide) ?_
      refine x_goi (x_runVN (As := [.int (xJ 97), .int (xJ 7)]) hx hb hml hown hT hE hW hl.1 (Or.inl (by decide)) (so_109 h0 g _) rfl cf_X4_worthOf wq802 wq42 wn800 (c_X4_worthOf l D g T h0 s35 hW.2.1 97 (by decide) 7 (by decide) hp36.1.1) ⟨rfl, rfl, ⟨by decide, by decide⟩, ⟨by decide, by decide⟩⟩ rfl rfl (Nat.le_of_ble_eq_true rfl) dX0_cast_83) hW (fun x41 s42 H locs rx41 hp43 hW => ?_)
      obtain ⟨fs42, hp43⟩ := hp43
      have hF44 := hF37.call fs42 (fun k h => by omega)
      have q45 : s42 1 1 = s0 1 1 := (congrFun (fs42 _ (by omega)) _).trans q38
      have ghp43 := hp43.2
      refine x_iload hx hb hl 0 rfl dX0_cast_86 ?_
      refine x_gov (x_runVN (As := [.ref (h0 + 3), .int (xJ x40), .int (xJ x41), .int (xJ x34)]) hx hb hml hown hT hE hW hl.1 (Or.inl (by decide)) (so_130 h0 g _) rfl cf_X7_fall wq839 wq49 wn837 (c_X7_fall l D g T h0 s42 hW.2.1 x40 rx40 x41 rx41 x34 rx34 hp43.1.1) ⟨rfl, rfl, ⟨by decide, by decide⟩, ⟨by decide, by decide⟩⟩ rfl rfl (Nat.le_of_ble_eq_true rfl) dX0_cast_88) hW (fun s47 H locs hp48 hW => ?_)
      obtain ⟨fs47, hp48⟩ := hp48
      have hF49 := hF44.call fs47 (fun k h => by omega)
      have q50 : s47 1 1 = s0 1 1 := (congrFun (fs47 _ (by omega)) _).trans q45
      have ghp48 := hp48.2
      refine x_iinc (lv' := [(4, .int (xJ (i4_10 + 1))), (5, .int (xJ x34)), (0, .ref (h0 + 128)), (1, .ref (h0 + d)), (2, .int (xJ a)), (3, .int (xJ b))]) hx hb hl 5 rfl dX0_cast_91 (by decide) rfl (fun ls hl => ?_)
      refine lv_goto (tgt := 10) hx hb dX0_cast_94 (by decide) ?_
      exact ih10 (i4_10 + 1) s47 H locs ls (by omega) hF49 q50 hp48.1.1 (by omega) (by omega) (by omega) hW (lv_sub hl [2, 3, 4, 5, 0] rfl)
  exact L10 ((2 + 1 - 0 : Int).toNat + 1) 0 s2 H locs ls (by decide) hF4 q5 hp3.1.1 (by omega) (by omega) (Nat.lt_succ_self _) hW (lv_sub hl [1, 2, 3, 4, 0] rfl)
set_option maxHeartbeats 4000000 in
set_option maxRecDepth 100000 in
theorem c_X0_castCloudless (l : Launch) (D : va_G) (g : xG) (T : Nat × Nat × Nat) (h0 : Nat) (s0 : xS) (hσ : xRR s0) (d : Nat) (hd : xDay d) (p0 : IC s0) : Met l yX0_castCloudless (xws yX0_castCloudless cX0_castCloudless 2 none) { frames := 4, cells := 0, slots := 0, locals := 99 } (xP [.ref (h0 + 128), .ref (h0 + d)] D g T h0 s0) (xQv D g h0 (fun τ => xFr (fun k => k = 115 ∨ k = 116 ∨ k = 130 ∨ k = 131 ∨ k = 132 ∨ k = 133) s0 τ ∧ (((IC τ) ∧ True) ∧ (True)))) 0 0 (xA h0) := by
  refine x_met hσ (by decide) (Nat.le_of_ble_eq_true rfl) ?_
  intro p e s m args below meth c hx hb hr hml hown hT hlk hnm hE hW ls hl
  have hl : lv_has ls 2 [(0, .ref (h0 + 128)), (1, .ref (h0 + d))] := hl
  obtain ⟨Q, eQ⟩ : ∃ Q, Q = MQ below (xQv D g h0 (fun τ => xFr (fun k => k = 115 ∨ k = 116 ∨ k = 130 ∨ k = 131 ∨ k = 132 ∨ k = 133) s0 τ ∧ (((IC τ) ∧ True) ∧ (True)))) args s 0 0 (xA h0) := ⟨_, rfl⟩
  rw [← eQ]
  generalize hHe : ([] : List Loc) = locs at hW ⊢
  obtain ⟨H, eH⟩ : ∃ H, H = s.heap := ⟨_, rfl⟩
  rw [← eH] at hW ⊢
  have hF : xFr (fun k => k = 115 ∨ k = 116 ∨ k = 130 ∨ k = 131 ∨ k = 132 ∨ k = 133) s0 s0 := xFr.rf
  have hbd : (136 ≤ d ∧ d < 209) ∧ (d ≤ 146 ∨ 158 ≤ d) := by unfold xDay at hd; omega
  have k1_1 : s0 1 1 = s0 1 1 := rfl
  refine x_aload_n hx hb hl 0 rfl dX0_castCloudless_0 rfl ?_
  refine x_aload_n hx hb hl 1 rfl dX0_castCloudless_1 rfl ?_
  refine x_iconst hx hb dX0_castCloudless_2 ?_
  refine x_aload_n hx hb hl 0 rfl dX0_castCloudless_3 rfl ?_
  refine x_get (j := 1) (v := .ref (h0 + 109)) hx hb hown hT hE hW cls_X0 (Or.inl (by decide)) (so_128 h0 g _) (by decide) rfl wq354 dX0_castCloudless_4 ?_
  refine x_aload_n hx hb hl 1 rfl dX0_castCloudless_7 rfl ?_
  refine x_getN (j := 7) (v := .int (xJ (s0 d 7))) hx hb hown hT hE hW cls_X2 (Or.inl (by omega)) (so_day0 h0 g hd _) (by decide) rfl wn402 dX0_castCloudless_8 ?_
  refine x_rd hW (fun x1 ex1 rx1 => ?_)
  have bx1 : 0 ≤ x1 ∧ x1 ≤ 9999 := by rw [ex1]; exact IC.m p0 hd
  refine x_goi (x_runVN (As := [.int (xJ x1)]) hx hb hml hown hT hE hW hl.1 (Or.inl (by decide)) (so_109 h0 g _) rfl cf_X4_isNight wq819 wq45 wn817 (c_X4_isNight l D g T h0 s0 hW.2.1 x1 rx1 p0) ⟨rfl, rfl, ⟨by decide, by decide⟩, ⟨by decide, by decide⟩⟩ rfl rfl (Nat.le_of_ble_eq_true rfl) dX0_castCloudless_11) hW (fun x2 s3 H locs rx2 hp4 hW => ?_)
  obtain ⟨fs3, hp4⟩ := hp4
  have hF5 := hF.call fs3 (fun k h => by omega)
  have q6 : s3 1 1 = s0 1 1 := (congrFun (fs3 _ (by omega)) _).trans k1_1
  have ghp4 := hp4.2
  refine x_gov (x_runV (As := [.ref (h0 + d), .int (xJ 1), .int (xJ x2)]) hx hb hml hown hT hE hW hl.1 (Or.inl (by decide)) (so_128 h0 g _) rfl cf_X0_cast wq824 wq46 wq822 (c_X0_cast l D g T h0 s3 hW.2.1 d hd 1 (by decide) x2 rx2 hp4.1.1) ⟨rfl, rfl, ⟨by decide, by decide⟩, ⟨by decide, by decide⟩⟩ rfl rfl (Nat.le_of_ble_eq_true rfl) dX0_castCloudless_14) hW (fun s8 H locs hp9 hW => ?_)
  obtain ⟨fs8, hp9⟩ := hp9
  have hF10 := hF5.call fs8 (fun k h => by omega)
  have q11 : s8 1 1 = s0 1 1 := (congrFun (fs8 _ (by omega)) _).trans q6
  have ghp9 := hp9.2
  rw [eQ]
  exact x_vret hx hb hr hlk hW ⟨hF10, ⟨hp9.1.1, trivial⟩, trivial⟩ dX0_castCloudless_17
set_option maxHeartbeats 4000000 in
set_option maxRecDepth 100000 in
theorem c_X0_shadowsAt (l : Launch) (D : va_G) (g : xG) (T : Nat × Nat × Nat) (h0 : Nat) (s0 : xS) (hσ : xRR s0) (d : Nat) (hd : xDay d) (x : Int) (rx : xR x) (p0 : IC s0) : Met l yX0_shadowsAt (xws yX0_shadowsAt cX0_shadowsAt 3 (some .int)) { frames := 5, cells := 0, slots := 0, locals := 120 } (xP [.ref (h0 + 128), .ref (h0 + d), .int (xJ x)] D g T h0 s0) (xQi D g h0 (fun r τ => xFr (fun k => k = 115 ∨ k = 116 ∨ k = 130 ∨ k = 131 ∨ k = 132 ∨ k = 133) s0 τ ∧ (((IC τ) ∧ True) ∧ (True)))) 0 0 (xA h0) := by
  refine x_met hσ (by decide) (Nat.le_of_ble_eq_true rfl) ?_
  intro p e s m args below meth c hx hb hr hml hown hT hlk hnm hE hW ls hl
  have hl : lv_has ls 3 [(0, .ref (h0 + 128)), (1, .ref (h0 + d)), (2, .int (xJ x))] := hl
  obtain ⟨Q, eQ⟩ : ∃ Q, Q = MQ below (xQi D g h0 (fun r τ => xFr (fun k => k = 115 ∨ k = 116 ∨ k = 130 ∨ k = 131 ∨ k = 132 ∨ k = 133) s0 τ ∧ (((IC τ) ∧ True) ∧ (True)))) args s 0 0 (xA h0) := ⟨_, rfl⟩
  rw [← eQ]
  generalize hHe : ([] : List Loc) = locs at hW ⊢
  obtain ⟨H, eH⟩ : ∃ H, H = s.heap := ⟨_, rfl⟩
  rw [← eH] at hW ⊢
  have hF : xFr (fun k => k = 115 ∨ k = 116 ∨ k = 130 ∨ k = 131 ∨ k = 132 ∨ k = 133) s0 s0 := xFr.rf
  have hbd : (136 ≤ d ∧ d < 209) ∧ (d ≤ 146 ∨ 158 ≤ d) := by unfold xDay at hd; omega
  have k1_1 : s0 1 1 = s0 1 1 := rfl
  refine x_aload_n hx hb hl 0 rfl dX0_shadowsAt_0 rfl ?_
  refine x_aload_n hx hb hl 1 rfl dX0_shadowsAt_1 rfl ?_
  refine x_gov (x_runV (As := [.ref (h0 + d)]) hx hb hml hown hT hE hW hl.1 (Or.inl (by decide)) (so_128 h0 g _) rfl cf_X0_castCloudless wq943 wq69 wq941 (c_X0_castCloudless l D g T h0 s0 hW.2.1 d hd p0) ⟨rfl, rfl, ⟨by decide, by decide⟩, ⟨by decide, by decide⟩⟩ rfl rfl (Nat.le_of_ble_eq_true rfl) dX0_shadowsAt_2) hW (fun s2 H locs hp3 hW => ?_)
  obtain ⟨fs2, hp3⟩ := hp3
  have hF4 := hF.call fs2 (fun k h => by omega)
  have q5 : s2 1 1 = s0 1 1 := (congrFun (fs2 _ (by omega)) _).trans k1_1
  have ghp3 := hp3.2
  refine x_aload_n hx hb hl 0 rfl dX0_shadowsAt_5 rfl ?_
  refine x_get (j := 3) (v := .ref (h0 + 130)) hx hb hown hT hE hW cls_X0 (Or.inl (by decide)) (so_128 h0 g _) (by decide) rfl wq357 dX0_shadowsAt_6 ?_
  refine x_iload_n hx hb hl 2 rfl dX0_shadowsAt_9 rfl ?_
  refine x_goi (x_runVN (As := [.int (xJ x)]) hx hb hml hown hT hE hW hl.1 (Or.inl (by decide)) (so_130 h0 g _) rfl cf_X7_layersAt wq899 wq61 wn897 (c_X7_layersAt l D g T h0 s2 hW.2.1 x rx hp3.1.1) ⟨rfl, rfl, ⟨by decide, by decide⟩, ⟨by decide, by decide⟩⟩ rfl rfl (Nat.le_of_ble_eq_true rfl) dX0_shadowsAt_10) hW (fun x6 s7 H locs rx6 hp8 hW => ?_)
  obtain ⟨es7, hp8⟩ := hp8
  subst es7
  have ghp8 := hp8
  rw [eQ]
  exact x_iret hx hb hr hlk hW rx6 ⟨hF4, ⟨hp3.1.1, trivial⟩, trivial⟩ dX0_shadowsAt_13
set_option maxHeartbeats 4000000 in
set_option maxRecDepth 100000 in
theorem c_X0_spotsInLampShadows (l : Launch) (D : va_G) (g : xG) (T : Nat × Nat × Nat) (h0 : Nat) (s0 : xS) (hσ : xRR s0) (d : Nat) (hd : xDay d) (x : Int) (rx : xR x) (p0 : IC s0) : Met l yX0_spotsInLampShadows (xws yX0_spotsInLampShadows cX0_spotsInLampShadows 3 (some .int)) { frames := 4, cells := 0, slots := 0, locals := 99 } (xP [.ref (h0 + 128), .ref (h0 + d), .int (xJ x)] D g T h0 s0) (xQi D g h0 (fun r τ => xFr (fun k => k = 115 ∨ k = 116 ∨ k = 130 ∨ k = 131 ∨ k = 132 ∨ k = 133) s0 τ ∧ (((IC τ) ∧ True) ∧ (True)))) 0 0 (xA h0) := by
  refine x_met hσ (by decide) (Nat.le_of_ble_eq_true rfl) ?_
  intro p e s m args below meth c hx hb hr hml hown hT hlk hnm hE hW ls hl
  have hl : lv_has ls 3 [(0, .ref (h0 + 128)), (1, .ref (h0 + d)), (2, .int (xJ x))] := hl
  obtain ⟨Q, eQ⟩ : ∃ Q, Q = MQ below (xQi D g h0 (fun r τ => xFr (fun k => k = 115 ∨ k = 116 ∨ k = 130 ∨ k = 131 ∨ k = 132 ∨ k = 133) s0 τ ∧ (((IC τ) ∧ True) ∧ (True)))) args s 0 0 (xA h0) := ⟨_, rfl⟩
  rw [← eQ]
  generalize hHe : ([] : List Loc) = locs at hW ⊢
  obtain ⟨H, eH⟩ : ∃ H, H = s.heap := ⟨_, rfl⟩
  rw [← eH] at hW ⊢
  have hF : xFr (fun k => k = 115 ∨ k = 116 ∨ k = 130 ∨ k = 131 ∨ k = 132 ∨ k = 133) s0 s0 := xFr.rf
  have hbd : (136 ≤ d ∧ d < 209) ∧ (d ≤ 146 ∨ 158 ≤ d) := by unfold xDay at hd; omega
  have k1_1 : s0 1 1 = s0 1 1 := rfl
  refine x_aload_n hx hb hl 0 rfl dX0_spotsInLampShadows_0 rfl ?_
  refine x_aload_n hx hb hl 1 rfl dX0_spotsInLampShadows_1 rfl ?_
  refine x_iconst hx hb dX0_spotsInLampShadows_2 ?_
  refine x_iconst hx hb dX0_spotsInLampShadows_3 ?_
  refine x_gov (x_runV (As := [.ref (h0 + d), .int (xJ 0), .int (xJ 1)]) hx hb hml hown hT hE hW hl.1 (Or.inl (by decide)) (so_128 h0 g _) rfl cf_X0_cast wq824 wq46 wq822 (c_X0_cast l D g T h0 s0 hW.2.1 d hd 0 (by decide) 1 (by decide) p0) ⟨rfl, rfl, ⟨by decide, by decide⟩, ⟨by decide, by decide⟩⟩ rfl rfl (Nat.le_of_ble_eq_true rfl) dX0_spotsInLampShadows_4) hW (fun s2 H locs hp3 hW => ?_)
  obtain ⟨fs2, hp3⟩ := hp3
  have hF4 := hF.call fs2 (fun k h => by omega)
  have q5 : s2 1 1 = s0 1 1 := (congrFun (fs2 _ (by omega)) _).trans k1_1
  have ghp3 := hp3.2
  refine x_aload_n hx hb hl 0 rfl dX0_spotsInLampShadows_7 rfl ?_
  refine x_aload_n hx hb hl 1 rfl dX0_spotsInLampShadows_8 rfl ?_
  refine x_iload_n hx hb hl 2 rfl dX0_spotsInLampShadows_9 rfl ?_
  refine x_gov (x_runV (As := [.ref (h0 + d), .int (xJ x)]) hx hb hml hown hT hE hW hl.1 (Or.inl (by decide)) (so_128 h0 g _) rfl cf_X0_castOfLamp wq845 wq50 wq843 (c_X0_castOfLamp l D g T h0 s2 hW.2.1 d hd x rx hp3.1.1) ⟨rfl, rfl, ⟨by decide, by decide⟩, ⟨by decide, by decide⟩⟩ rfl rfl (Nat.le_of_ble_eq_true rfl) dX0_spotsInLampShadows_10) hW (fun s7 H locs hp8 hW => ?_)
  obtain ⟨fs7, hp8⟩ := hp8
  have hF9 := hF4.call fs7 (fun k h => by omega)
  have q10 : s7 1 1 = s0 1 1 := (congrFun (fs7 _ (by omega)) _).trans q5
  have ghp8 := hp8.2
  refine x_aload_n hx hb hl 0 rfl dX0_spotsInLampShadows_13 rfl ?_
  refine x_get (j := 3) (v := .ref (h0 + 130)) hx hb hown hT hE hW cls_X0 (Or.inl (by decide)) (so_128 h0 g _) (by decide) rfl wq357 dX0_spotsInLampShadows_14 ?_
  refine x_getN (j := 3) (v := .int (xJ (s7 130 3))) hx hb hown hT hE hW cls_X7 (Or.inl (by decide)) (so_130 h0 g _) (by decide) rfl wn340 dX0_spotsInLampShadows_17 ?_
  refine x_rd hW (fun x11 ex11 rx11 => ?_)
  have bx11 : 0 ≤ x11 ∧ x11 ≤ 100 := by rw [ex11]; exact IC.z hp8.1.1
  rw [eQ]
  exact x_iret hx hb hr hlk hW rx11 ⟨hF9, ⟨hp8.1.1, trivial⟩, trivial⟩ dX0_spotsInLampShadows_20
set_option maxHeartbeats 4000000 in
set_option maxRecDepth 100000 in
theorem c_X0_tellFelon (l : Launch) (D : va_G) (g : xG) (T : Nat × Nat × Nat) (h0 : Nat) (s0 : xS) (hσ : xRR s0) (d : Nat) (hd : xDay d) (f : Int) (rf : xR f) (p0 : IC s0) : Met l yX0_tellFelon (xws yX0_tellFelon cX0_tellFelon 4 none) { frames := 2, cells := 0, slots := 0, locals := 47 } (xP [.ref (h0 + 128), .ref (h0 + d), .int (xJ f)] D g T h0 s0) (xQv D g h0 (fun τ => xFr (fun k => k = 115) s0 τ ∧ (((IC τ) ∧ True) ∧ (True)))) 0 0 (xA h0) := by
  refine x_met hσ (by decide) (Nat.le_of_ble_eq_true rfl) ?_
  intro p e s m args below meth c hx hb hr hml hown hT hlk hnm hE hW ls hl
  have hl : lv_has ls 4 [(0, .ref (h0 + 128)), (1, .ref (h0 + d)), (2, .int (xJ f))] := hl
  obtain ⟨Q, eQ⟩ : ∃ Q, Q = MQ below (xQv D g h0 (fun τ => xFr (fun k => k = 115) s0 τ ∧ (((IC τ) ∧ True) ∧ (True)))) args s 0 0 (xA h0) := ⟨_, rfl⟩
  rw [← eQ]
  generalize hHe : ([] : List Loc) = locs at hW ⊢
  obtain ⟨H, eH⟩ : ∃ H, H = s.heap := ⟨_, rfl⟩
  rw [← eH] at hW ⊢
  have hF : xFr (fun k => k = 115) s0 s0 := xFr.rf
  have hbd : (136 ≤ d ∧ d < 209) ∧ (d ≤ 146 ∨ 158 ≤ d) := by unfold xDay at hd; omega
  have k1_1 : s0 1 1 = s0 1 1 := rfl
  refine x_aload_n hx hb hl 1 rfl dX0_tellFelon_0 rfl ?_
  refine x_iload_n hx hb hl 2 rfl dX0_tellFelon_1 rfl ?_
  refine x_goi (x_runVN (As := [.int (xJ f)]) hx hb hml hown hT hE hW hl.1 (Or.inl (by omega)) (so_day0 h0 g hd _) rfl cf_X2_hasFelon wq862 wq53 wn868 (c_X2_hasFelon l D g T h0 s0 hW.2.1 d hd f rf p0) ⟨rfl, rfl, ⟨by decide, by decide⟩, ⟨by decide, by decide⟩⟩ rfl rfl (Nat.le_of_ble_eq_true rfl) dX0_tellFelon_2) hW (fun x1 s2 H locs rx1 hp3 hW => ?_)
  obtain ⟨es2, hp3⟩ := hp3
  subst es2
  have ghp3 := hp3
  refine x_if_eq (tgt := 56) hx hb rx1 dX0_tellFelon_5 (by decide) (fun c4 => ?_) (fun c4 => ?_)
  · skip
    rw [eQ]
    exact x_vret hx hb hr hlk hW ⟨hF, ⟨p0, trivial⟩, trivial⟩ dX0_tellFelon_56
  refine x_aload_n hx hb hl 0 rfl dX0_tellFelon_8 rfl ?_
  refine x_get (j := 0) (v := .ref (h0 + 3)) hx hb hown hT hE hW cls_X0 (Or.inl (by decide)) (so_128 h0 g _) (by decide) rfl wq351 dX0_tellFelon_9 ?_
  refine x_aload_n hx hb hl 1 rfl dX0_tellFelon_12 rfl ?_
  refine x_getN (j := 3) (v := .ref (h0 + (d + 6))) hx hb hown hT hE hW cls_X2 (Or.inl (by omega)) (so_day0 h0 g hd _) (by decide) rfl wn390 dX0_tellFelon_13 ?_
  refine x_iload_n hx hb hl 2 rfl dX0_tellFelon_16 rfl ?_
  refine x_iald hx hb hE hW (Or.inl (by omega)) (sa_day6 h0 g hd _) (by omega) (by decide) dX0_tellFelon_17 ?_
  refine x_rd hW (fun x5 ex5 rx5 => ?_)
  refine x_goi (x_runVN (As := [.int (xJ x5)]) hx hb hml hown hT hE hW hl.1 (Or.inl (by decide)) (so_3 h0 g _) rfl cf_X6_kindAt wq619 wq10 wn848 (c_X6_kindAt l D g T h0 s0 hW.2.1 x5 rx5 p0) ⟨rfl, rfl, ⟨by decide, by decide⟩, ⟨by decide, by decide⟩⟩ rfl rfl (Nat.le_of_ble_eq_true rfl) dX0_tellFelon_18) hW (fun x6 s7 H locs rx6 hp8 hW => ?_)
  obtain ⟨es7, hp8⟩ := hp8
  subst es7
  have ghp8 := hp8
  refine x_iconst hx hb dX0_tellFelon_21 ?_
  have J30 : ∀ (t0_30 : Int) (ls : Array Slot), (xR t0_30) → lv_has ls 4 [(0, .ref (h0 + 128)), (1, .ref (h0 + d)), (2, .int (xJ f))] → W p l e { frames := 2, cells := 0, slots := 0, locals := 47 } s m args below meth c H locs 0 0 Q (F0 m 30 ls [.int (xJ t0_30)]) := by
    intro t0_30 ls rt0_30  hl
    refine lv_istore_n (lv' := [(3, .int (xJ t0_30)), (0, .ref (h0 + 128)), (1, .ref (h0 + d)), (2, .int (xJ f))]) hx hb dX0_tellFelon_30 rfl hl (by decide) rfl (fun ls hl => ?_)
    refine x_aload_n hx hb hl 1 rfl dX0_tellFelon_31 rfl ?_
    refine x_get (j := 1) (v := .ref (h0 + 109)) hx hb hown hT hE hW cls_X0 (Or.inl (by decide)) (so_128 h0 g _) (by decide) rfl wq354 dX0_tellFelon_32 ?_
    refine x_aload_n hx hb hl 2 rfl dX0_tellFelon_35 rfl ?_
    refine x_getN (j := 7) (v := .int (xJ (s0 d 7))) hx hb hown hT hE hW cls_X2 (Or.inl (by omega)) (so_day0 h0 g hd _) (by decide) rfl wn402 dX0_tellFelon_36 ?_
    refine x_rd hW (fun x9 ex9 rx9 => ?_)
    have bx9 : 0 ≤ x9 ∧ x9 ≤ 9999 := by rw [ex9]; exact IC.m p0 hd
    refine x_iload_n hx hb hl 3 rfl dX0_tellFelon_39 rfl ?_
    refine x_aload_n hx hb hl 2 rfl dX0_tellFelon_40 rfl ?_
    refine x_getN (j := 4) (v := .ref (h0 + (d + 7))) hx hb hown hT hE hW cls_X2 (Or.inl (by omega)) (so_day0 h0 g hd _) (by decide) rfl wn393 dX0_tellFelon_41 ?_
    refine x_iload_n hx hb hl 3 rfl dX0_tellFelon_44 rfl ?_
    refine x_iald hx hb hE hW (Or.inl (by omega)) (sa_day7 h0 g hd _) (by omega) (by decide) dX0_tellFelon_45 ?_
    refine x_rd hW (fun x10 ex10 rx10 => ?_)
    refine x_aload_n hx hb hl 2 rfl dX0_tellFelon_46 rfl ?_
    refine x_getN (j := 5) (v := .ref (h0 + (d + 8))) hx hb hown hT hE hW cls_X2 (Or.inl (by omega)) (so_day0 h0 g hd _) (by decide) rfl wn396 dX0_tellFelon_47 ?_
    refine x_iload_n hx hb hl 3 rfl dX0_tellFelon_50 rfl ?_
    refine x_iald hx hb hE hW (Or.inl (by omega)) (sa_day8 h0 g hd _) (by omega) (by decide) dX0_tellFelon_51 ?_
    refine x_rd hW (fun x11 ex11 rx11 => ?_)
    refine x_iload_n hx hb hl 0 rfl dX0_tellFelon_52 rfl ?_
    refine x_gov (x_runVN (As := [.int (xJ x9), .int (xJ f), .int (xJ x10), .int (xJ x11), .int (xJ t0_30)]) hx hb hml hown hT hE hW hl.1 (Or.inl (by decide)) (so_109 h0 g _) rfl cf_X4_tellFelon wq871 wq55 wn869 (c_X4_tellFelon l D g T h0 s0 hW.2.1 x9 rx9 f rf x10 rx10 x11 rx11 t0_30 rt0_30 p0) ⟨rfl, rfl, ⟨by decide, by decide⟩, ⟨by decide, by decide⟩⟩ rfl rfl (Nat.le_of_ble_eq_true rfl) dX0_tellFelon_53) hW (fun s13 H locs hp14 hW => ?_)
    obtain ⟨fs13, hp14⟩ := hp14
    have hF15 := hF.call fs13 (fun k h => by omega)
    have q16 : s13 1 1 = s0 1 1 := (congrFun (fs13 _ (by omega)) _).trans k1_1
    have ghp14 := hp14.2
    rw [eQ]
    exact x_vret hx hb hr hlk hW ⟨hF15, ⟨hp14.1.1, trivial⟩, trivial⟩ dX0_tellFelon_56
  refine x_icmp_ne (tgt := 29) hx hb rx6 (by decide) dX0_tellFelon_22 (by decide) (fun c17 => ?_) (fun c17 => ?_)
  · skip
    refine x_iconst hx hb dX0_tellFelon_29 ?_
    exact J30 0 ls (by decide)  (lv_sub hl [0, 1, 2] rfl)
  refine x_iconst hx hb dX0_tellFelon_25 ?_
  refine lv_goto (tgt := 30) hx hb dX0_tellFelon_26 (by decide) ?_
  exact J30 1 ls (by decide)  (lv_sub hl [0, 1, 2] rfl)
set_option maxHeartbeats 4000000 in
set_option maxRecDepth 100000 in
theorem c_X0_reachOf (l : Launch) (D : va_G) (g : xG) (T : Nat × Nat × Nat) (h0 : Nat) (s0 : xS) (hσ : xRR s0) (d : Nat) (hd : xDay d) (f : Int) (rf : xR f) (p0 : IC s0) : Met l yX0_reachOf (xws yX0_reachOf cX0_reachOf 3 (some .int)) { frames := 3, cells := 0, slots := 0, locals := 73 } (xP [.ref (h0 + 128), .ref (h0 + d), .int (xJ f)] D g T h0 s0) (xQi D g h0 (fun r τ => xFr (fun k => k = 115 ∨ k = 116) s0 τ ∧ (((IC τ) ∧ True) ∧ (0 ≤ r ∧ r ≤ 3)))) 0 0 (xA h0) := by
  refine x_met hσ (by decide) (Nat.le_of_ble_eq_true rfl) ?_
  intro p e s m args below meth c hx hb hr hml hown hT hlk hnm hE hW ls hl
  have hl : lv_has ls 3 [(0, .ref (h0 + 128)), (1, .ref (h0 + d)), (2, .int (xJ f))] := hl
  obtain ⟨Q, eQ⟩ : ∃ Q, Q = MQ below (xQi D g h0 (fun r τ => xFr (fun k => k = 115 ∨ k = 116) s0 τ ∧ (((IC τ) ∧ True) ∧ (0 ≤ r ∧ r ≤ 3)))) args s 0 0 (xA h0) := ⟨_, rfl⟩
  rw [← eQ]
  generalize hHe : ([] : List Loc) = locs at hW ⊢
  obtain ⟨H, eH⟩ : ∃ H, H = s.heap := ⟨_, rfl⟩
  rw [← eH] at hW ⊢
  have hF : xFr (fun k => k = 115 ∨ k = 116) s0 s0 := xFr.rf
  have hbd : (136 ≤ d ∧ d < 209) ∧ (d ≤ 146 ∨ 158 ≤ d) := by unfold xDay at hd; omega
  have k1_1 : s0 1 1 = s0 1 1 := rfl
  refine x_aload_n hx hb hl 0 rfl dX0_reachOf_0 rfl ?_
  refine x_aload_n hx hb hl 1 rfl dX0_reachOf_1 rfl ?_
  refine x_iload_n hx hb hl 2 rfl dX0_reachOf_2 rfl ?_
  refine x_gov (x_runV (As := [.ref (h0 + d), .int (xJ f)]) hx hb hml hown hT hE hW hl.1 (Or.inl (by decide)) (so_128 h0 g _) rfl cf_X0_tellFelon wq866 wq54 wq864 (c_X0_tellFelon l D g T h0 s0 hW.2.1 d hd f rf p0) ⟨rfl, rfl, ⟨by decide, by decide⟩, ⟨by decide, by decide⟩⟩ rfl rfl (Nat.le_of_ble_eq_true rfl) dX0_reachOf_3) hW (fun s2 H locs hp3 hW => ?_)
  obtain ⟨fs2, hp3⟩ := hp3
  have hF4 := hF.call fs2 (fun k h => by omega)
  have q5 : s2 1 1 = s0 1 1 := (congrFun (fs2 _ (by omega)) _).trans k1_1
  have ghp3 := hp3.2
  refine x_aload_n hx hb hl 0 rfl dX0_reachOf_6 rfl ?_
  refine x_get (j := 1) (v := .ref (h0 + 109)) hx hb hown hT hE hW cls_X0 (Or.inl (by decide)) (so_128 h0 g _) (by decide) rfl wq354 dX0_reachOf_7 ?_
  refine x_bipush hx hb dX0_reachOf_10 (by decide) ?_
  refine x_iconst hx hb dX0_reachOf_12 ?_
  refine x_goi (x_runVN (As := [.int (xJ 118), .int (xJ 3)]) hx hb hml hown hT hE hW hl.1 (Or.inl (by decide)) (so_109 h0 g _) rfl cf_X4_worthOf wq802 wq42 wn800 (c_X4_worthOf l D g T h0 s2 hW.2.1 118 (by decide) 3 (by decide) hp3.1.1) ⟨rfl, rfl, ⟨by decide, by decide⟩, ⟨by decide, by decide⟩⟩ rfl rfl (Nat.le_of_ble_eq_true rfl) dX0_reachOf_13) hW (fun x6 s7 H locs rx6 hp8 hW => ?_)
  obtain ⟨fs7, hp8⟩ := hp8
  have hF9 := hF4.call fs7 (fun k h => by omega)
  have q10 : s7 1 1 = s0 1 1 := (congrFun (fs7 _ (by omega)) _).trans q5
  have ghp8 := hp8.2
  rw [eQ]
  exact x_iret hx hb hr hlk hW rx6 ⟨hF9, ⟨hp8.1.1, trivial⟩, by omega⟩ dX0_reachOf_16
set_option maxHeartbeats 4000000 in
set_option maxRecDepth 100000 in
theorem c_X0_lineUp (l : Launch) (D : va_G) (g : xG) (T : Nat × Nat × Nat) (h0 : Nat) (s0 : xS) (hσ : xRR s0) (d : Nat) (hd : xDay d) (a : Int) (ra : xR a) (p0 : IC s0) : Met l yX0_lineUp (xws yX0_lineUp cX0_lineUp 7 (some .int)) { frames := 3, cells := 0, slots := 0, locals := 73 } (xP [.ref (h0 + 128), .ref (h0 + d), .int (xJ a)] D g T h0 s0) (xQi D g h0 (fun r τ => xFr (fun k => k = 115 ∨ k = 116 ∨ k = 134 ∨ k = 135) s0 τ ∧ (((IC τ) ∧ True) ∧ (0 ≤ r ∧ r ≤ 10)))) 0 0 (xA h0) := by
  refine x_met hσ (by decide) (Nat.le_of_ble_eq_true rfl) ?_
  intro p e s m args below meth c hx hb hr hml hown hT hlk hnm hE hW ls hl
  have hl : lv_has ls 7 [(0, .ref (h0 + 128)), (1, .ref (h0 + d)), (2, .int (xJ a))] := hl
  obtain ⟨Q, eQ⟩ : ∃ Q, Q = MQ below (xQi D g h0 (fun r τ => xFr (fun k => k = 115 ∨ k = 116 ∨ k = 134 ∨ k = 135) s0 τ ∧ (((IC τ) ∧ True) ∧ (0 ≤ r ∧ r ≤ 10)))) args s 0 0 (xA h0) := ⟨_, rfl⟩
  rw [← eQ]
  generalize hHe : ([] : List Loc) = locs at hW ⊢
  obtain ⟨H, eH⟩ : ∃ H, H = s.heap := ⟨_, rfl⟩
  rw [← eH] at hW ⊢
  have hF : xFr (fun k => k = 115 ∨ k = 116 ∨ k = 134 ∨ k = 135) s0 s0 := xFr.rf
  have hbd : (136 ≤ d ∧ d < 209) ∧ (d ≤ 146 ∨ 158 ≤ d) := by unfold xDay at hd; omega
  have k1_1 : s0 1 1 = s0 1 1 := rfl
  refine x_iconst hx hb dX0_lineUp_0 ?_
  refine lv_istore_n (lv' := [(3, .int (xJ 0)), (0, .ref (h0 + 128)), (1, .ref (h0 + d)), (2, .int (xJ a))]) hx hb dX0_lineUp_1 rfl hl (by decide) rfl (fun ls hl => ?_)
  refine x_iconst hx hb dX0_lineUp_2 ?_
  refine lv_istore (lv' := [(4, .int (xJ 0)), (3, .int (xJ 0)), (0, .ref (h0 + 128)), (1, .ref (h0 + d)), (2, .int (xJ a))]) hx hb dX0_lineUp_3 hl (by decide) rfl (fun ls hl => ?_)
  have L5 : ∀ (fu : Nat) (i3_5 : Int) (i4_5 : Int) (s_5 : xS) (H : Heap) (locs : List Loc) (ls : Array Slot), (xR i3_5) → (xR i4_5) → (xFr (fun k => k = 115 ∨ k = 116 ∨ k = 134 ∨ k = 135) s0 s_5) → (IC s_5) → (s_5 1 1 = s0 1 1) → (0 ≤ i4_5) → (i4_5 ≤ 10) → (0 ≤ i3_5 ∧ i3_5 ≤ i4_5) → (10 + 1 - i4_5).toNat < fu → xW D g h0 s H locs s_5 → lv_has ls 7 [(0, .ref (h0 + 128)), (1, .ref (h0 + d)), (2, .int (xJ a)), (3, .int (xJ i3_5)), (4, .int (xJ i4_5))] → W p l e { frames := 3, cells := 0, slots := 0, locals := 73 } s m args below meth c H locs 0 0 Q (F0 m 5 ls []) := by
    intro fu
    induction fu with
    | zero => intro i3_5 i4_5 s_5 H locs ls ri3_5 ri4_5 hF_5 q5_0 q5_1 v5_0 v5_1 v5_2 hm; exact absurd hm (Nat.not_lt_zero _)
    | succ fu ih5 =>
      intro i3_5 i4_5 s_5 H locs ls ri3_5 ri4_5 hF_5 q5_0 q5_1 v5_0 v5_1 v5_2 hm hW hl
      refine x_iload hx hb hl 4 rfl dX0_lineUp_5 ?_
      refine x_bipush hx hb dX0_lineUp_7 (by decide) ?_
      refine x_icmp_ge (tgt := 144) hx hb ri4_5 (by decide) dX0_lineUp_9 (by decide) (fun c1 => ?_) (fun c1 => ?_)
      · skip
        refine x_iload_n hx hb hl 3 rfl dX0_lineUp_144 rfl ?_
        rw [eQ]
        exact x_iret hx hb hr hlk hW ri3_5 ⟨hF_5, ⟨q5_0, trivial⟩, by omega⟩ dX0_lineUp_145
      refine x_aload_n hx hb hl 1 rfl dX0_lineUp_12 rfl ?_
      refine x_iload hx hb hl 4 rfl dX0_lineUp_13 ?_
      refine x_goi (x_runVN (As := [.int (xJ i4_5)]) hx hb hml hown hT hE hW hl.1 (Or.inl (by omega)) (so_day0 h0 g hd _) rfl cf_X2_mustServe wq858 wq52 wn856 (c_X2_mustServe l D g T h0 s_5 hW.2.1 d hd i4_5 ri4_5 q5_0) ⟨rfl, rfl, ⟨by decide, by decide⟩, ⟨by decide, by decide⟩⟩ rfl rfl (Nat.le_of_ble_eq_true rfl) dX0_lineUp_15) hW (fun x2 s3 H locs rx2 hp4 hW => ?_)
      obtain ⟨es3, hp4⟩ := hp4
      subst es3
      have ghp4 := hp4
      have J138 : ∀ (i3_138 : Int) (s_138 : xS) (H : Heap) (locs : List Loc) (ls : Array Slot), (xR i3_138) → (xFr (fun k => k = 115 ∨ k = 116 ∨ k = 134 ∨ k = 135) s0 s_138) → (IC s_138) → (s_138 1 1 = s0 1 1) → (0 ≤ i3_138 ∧ i3_138 ≤ i4_5 + 1) → xW D g h0 s H locs s_138 → lv_has ls 7 [(0, .ref (h0 + 128)), (1, .ref (h0 + d)), (2, .int (xJ a)), (3, .int (xJ i3_138)), (4, .int (xJ i4_5))] → W p l e { frames := 3, cells := 0, slots := 0, locals := 73 } s m args below meth c H locs 0 0 Q (F0 m 138 ls []) := by
        intro i3_138 s_138 H locs ls ri3_138 hF_138 q138_0 q138_1 v138_0 hW hl
        refine x_iinc (lv' := [(4, .int (xJ (i4_5 + 1))), (0, .ref (h0 + 128)), (1, .ref (h0 + d)), (2, .int (xJ a)), (3, .int (xJ i3_138))]) hx hb hl 4 rfl dX0_lineUp_138 (by decide) rfl (fun ls hl => ?_)
        refine lv_goto (tgt := 5) hx hb dX0_lineUp_141 (by decide) ?_
        exact ih5 i3_138 (i4_5 + 1) s_138 H locs ls ri3_138 (by omega) hF_138 q138_0 q138_1 (by omega) (by omega) (by omega) (by omega) hW (lv_sub hl [1, 2, 3, 4, 0] rfl)
      refine x_if_ne (tgt := 24) hx hb rx2 dX0_lineUp_18 (by decide) (fun c5 => ?_) (fun c5 => ?_)
      · skip
        refine x_aload_n hx hb hl 0 rfl dX0_lineUp_24 rfl ?_
        refine x_aload_n hx hb hl 1 rfl dX0_lineUp_25 rfl ?_
        refine x_iload hx hb hl 4 rfl dX0_lineUp_26 ?_
        refine x_gov (x_runV (As := [.ref (h0 + d), .int (xJ i4_5)]) hx hb hml hown hT hE hW hl.1 (Or.inl (by decide)) (so_128 h0 g _) rfl cf_X0_tellFelon wq866 wq54 wq864 (c_X0_tellFelon l D g T h0 s_5 hW.2.1 d hd i4_5 ri4_5 q5_0) ⟨rfl, rfl, ⟨by decide, by decide⟩, ⟨by decide, by decide⟩⟩ rfl rfl (Nat.le_of_ble_eq_true rfl) dX0_lineUp_28) hW (fun s7 H locs hp8 hW => ?_)
        obtain ⟨fs7, hp8⟩ := hp8
        have hF9 := hF_5.call fs7 (fun k h => by omega)
        have q10 : s7 1 1 = s0 1 1 := (congrFun (fs7 _ (by omega)) _).trans q5_1
        have ghp8 := hp8.2
        refine x_iload hx hb hl 4 rfl dX0_lineUp_31 ?_
        refine x_iload_n hx hb hl 2 rfl dX0_lineUp_33 rfl ?_
        refine x_icmp_ne (tgt := 43) hx hb ri4_5 ra dX0_lineUp_34 (by decide) (fun c11 => ?_) (fun c11 => ?_)
        · skip
          refine x_aload_n hx hb hl 0 rfl dX0_lineUp_43 rfl ?_
          refine x_get (j := 1) (v := .ref (h0 + 109)) hx hb hown hT hE hW cls_X0 (Or.inl (by decide)) (so_128 h0 g _) (by decide) rfl wq354 dX0_lineUp_44 ?_
          refine x_bipush hx hb dX0_lineUp_47 (by decide) ?_
          refine x_sipush hx hb dX0_lineUp_49 (by decide) ?_
          refine x_goi (x_runVN (As := [.int (xJ 111), .int (xJ 999)]) hx hb hml hown hT hE hW hl.1 (Or.inl (by decide)) (so_109 h0 g _) rfl cf_X4_worthOf wq802 wq42 wn800 (c_X4_worthOf l D g T h0 s7 hW.2.1 111 (by decide) 999 (by decide) hp8.1.1) ⟨rfl, rfl, ⟨by decide, by decide⟩, ⟨by decide, by decide⟩⟩ rfl rfl (Nat.le_of_ble_eq_true rfl) dX0_lineUp_52) hW (fun x12 s13 H locs rx12 hp14 hW => ?_)
          obtain ⟨fs13, hp14⟩ := hp14
          have hF15 := hF9.call fs13 (fun k h => by omega)
          have q16 : s13 1 1 = s0 1 1 := (congrFun (fs13 _ (by omega)) _).trans q10
          have ghp14 := hp14.2
          refine lv_istore (lv' := [(5, .int (xJ x12)), (0, .ref (h0 + 128)), (1, .ref (h0 + d)), (2, .int (xJ a)), (3, .int (xJ i3_5)), (4, .int (xJ i4_5))]) hx hb dX0_lineUp_55 hl (by decide) rfl (fun ls hl => ?_)
          refine x_iload_n hx hb hl 4 rfl dX0_lineUp_57 rfl ?_
          refine lv_istore (lv' := [(6, .int (xJ i3_5)), (5, .int (xJ x12)), (0, .ref (h0 + 128)), (1, .ref (h0 + d)), (2, .int (xJ a)), (3, .int (xJ i3_5)), (4, .int (xJ i4_5))]) hx hb dX0_lineUp_58 hl (by decide) rfl (fun ls hl => ?_)
          have L60 : ∀ (fu : Nat) (i6_60 : Int) (s_60 : xS) (H : Heap) (locs : List Loc) (ls : Array Slot), (xR i6_60) → (xFr (fun k => k = 115 ∨ k = 116 ∨ k = 134 ∨ k = 135) s0 s_60) → (s_60 1 1 = s0 1 1) → (IC s_60) → (0 ≤ i6_60 ∧ i6_60 ≤ i3_5) → (i6_60).toNat < fu → xW D g h0 s H locs s_60 → lv_has ls 7 [(0, .ref (h0 + 128)), (1, .ref (h0 + d)), (2, .int (xJ a)), (3, .int (xJ i3_5)), (4, .int (xJ i4_5)), (5, .int (xJ x12)), (6, .int (xJ i6_60))] → W p l e { frames := 3, cells := 0, slots := 0, locals := 73 } s m args below meth c H locs 0 0 Q (F0 m 60 ls []) := by
            intro fu
            induction fu with
            | zero => intro i6_60 s_60 H locs ls ri6_60 hF_60 q60_0 q60_1 v60_0 hm; exact absurd hm (Nat.not_lt_zero _)
            | succ fu ih60 =>
              intro i6_60 s_60 H locs ls ri6_60 hF_60 q60_0 q60_1 v60_0 hm hW hl
              refine x_iload hx hb hl 6 rfl dX0_lineUp_60 ?_
              have J117 : ∀ (ls : Array Slot), (0 ≤ i6_60 ∧ i6_60 ≤ i3_5) → lv_has ls 7 [(0, .ref (h0 + 128)), (1, .ref (h0 + d)), (2, .int (xJ a)), (3, .int (xJ i3_5)), (4, .int (xJ i4_5)), (5, .int (xJ x12)), (6, .int (xJ i6_60))] → W p l e { frames := 3, cells := 0, slots := 0, locals := 73 } s m args below meth c H locs 0 0 Q (F0 m 117 ls []) := by
                intro ls v117_0  hl
                refine x_aload_n hx hb hl 0 rfl dX0_lineUp_117 rfl ?_
                refine x_get (j := 4) (v := .ref (h0 + 134)) hx hb hown hT hE hW cls_X0 (Or.inl (by decide)) (so_128 h0 g _) (by decide) rfl wq361 dX0_lineUp_118 ?_
                refine x_iload hx hb hl 6 rfl dX0_lineUp_121 ?_
                refine x_iload hx hb hl 4 rfl dX0_lineUp_123 ?_
                refine x_iast hx hb hE hW (by decide) (fun σ => sa_134 h0 g σ) (by omega) (by decide) ri4_5 dX0_lineUp_125 (fun H locs s17 es17 hW => ?_)
                have q18 : s17 1 1 = s0 1 1 := (show s17 1 1 = s_60 1 1 from by rw [es17, xU_k _ _ _ (by omega)]).trans q60_0
                have q19 : IC s17 := by rw [es17]; exact IC_o (by decide) q60_1
                have hF20 := hF_60.put es17 (by omega)
                refine x_aload_n hx hb hl 0 rfl dX0_lineUp_126 rfl ?_
                refine x_get (j := 5) (v := .ref (h0 + 135)) hx hb hown hT hE hW cls_X0 (Or.inl (by decide)) (so_128 h0 g _) (by decide) rfl wq362 dX0_lineUp_127 ?_
                refine x_iload hx hb hl 6 rfl dX0_lineUp_130 ?_
                refine x_iload hx hb hl 5 rfl dX0_lineUp_132 ?_
                refine x_iast hx hb hE hW (by decide) (fun σ => sa_135 h0 g σ) (by omega) (by decide) rx12 dX0_lineUp_134 (fun H locs s21 es21 hW => ?_)
                have q22 : s21 1 1 = s0 1 1 := (show s21 1 1 = s17 1 1 from by rw [es21, xU_k _ _ _ (by omega)]).trans q18
                have q23 : IC s21 := by rw [es21]; exact IC_o (by decide) q19
                have hF24 := hF20.put es21 (by omega)
                refine x_iinc (lv' := [(3, .int (xJ (i3_5 + 1))), (0, .ref (h0 + 128)), (1, .ref (h0 + d)), (2, .int (xJ a)), (4, .int (xJ i4_5)), (5, .int (xJ x12)), (6, .int (xJ i6_60))]) hx hb hl 3 rfl dX0_lineUp_135 (by decide) rfl (fun ls hl => ?_)
                exact J138 (i3_5 + 1) s21 H locs ls (by omega) hF24 q23 q22 (by omega) hW (lv_sub hl [1, 2, 3, 0, 4] rfl)
              refine x_if_le (tgt := 117) hx hb ri6_60 dX0_lineUp_62 (by decide) (fun c25 => ?_) (fun c25 => ?_)
              · skip
                exact J117 ls (by omega)  (lv_sub hl [0, 1, 2, 3, 4, 5, 6] rfl)
              refine x_aload_n hx hb hl 0 rfl dX0_lineUp_65 rfl ?_
              refine x_get (j := 5) (v := .ref (h0 + 135)) hx hb hown hT hE hW cls_X0 (Or.inl (by decide)) (so_128 h0 g _) (by decide) rfl wq362 dX0_lineUp_66 ?_
              refine x_iload hx hb hl 6 rfl dX0_lineUp_69 ?_
              refine x_iconst hx hb dX0_lineUp_71 ?_
              refine x_isub hx hb dX0_lineUp_72 ?_
              refine x_iald hx hb hE hW (Or.inl (by decide)) (sa_135 h0 g _) (by omega) (by decide) dX0_lineUp_73 ?_
              refine x_rd hW (fun x26 ex26 rx26 => ?_)
              refine x_iload hx hb hl 5 rfl dX0_lineUp_74 ?_
              refine x_icmp_ge (tgt := 117) hx hb rx26 rx12 dX0_lineUp_76 (by decide) (fun c27 => ?_) (fun c27 => ?_)
              · skip
                exact J117 ls (by omega)  (lv_sub hl [0, 1, 2, 3, 4, 5, 6] rfl)
              refine x_aload_n hx hb hl 0 rfl dX0_lineUp_79 rfl ?_
              refine x_get (j := 4) (v := .ref (h0 + 134)) hx hb hown hT hE hW cls_X0 (Or.inl (by decide)) (so_128 h0 g _) (by decide) rfl wq361 dX0_lineUp_80 ?_
              refine x_iload hx hb hl 6 rfl dX0_lineUp_83 ?_
              refine x_aload_n hx hb hl 0 rfl dX0_lineUp_85 rfl ?_
              refine x_get (j := 4) (v := .ref (h0 + 134)) hx hb hown hT hE hW cls_X0 (Or.inl (by decide)) (so_128 h0 g _) (by decide) rfl wq361 dX0_lineUp_86 ?_
              refine x_iload hx hb hl 6 rfl dX0_lineUp_89 ?_
              refine x_iconst hx hb dX0_lineUp_91 ?_
              refine x_isub hx hb dX0_lineUp_92 ?_
              refine x_iald hx hb hE hW (Or.inl (by decide)) (sa_134 h0 g _) (by omega) (by decide) dX0_lineUp_93 ?_
              refine x_rd hW (fun x28 ex28 rx28 => ?_)
              refine x_iast hx hb hE hW (by decide) (fun σ => sa_134 h0 g σ) (by omega) (by decide) rx28 dX0_lineUp_94 (fun H locs s29 es29 hW => ?_)
              have q30 : s29 1 1 = s0 1 1 := (show s29 1 1 = s_60 1 1 from by rw [es29, xU_k _ _ _ (by omega)]).trans q60_0
              have q31 : IC s29 := by rw [es29]; exact IC_o (by decide) q60_1
              have hF32 := hF_60.put es29 (by omega)
              refine x_aload_n hx hb hl 0 rfl dX0_lineUp_95 rfl ?_
              refine x_get (j := 5) (v := .ref (h0 + 135)) hx hb hown hT hE hW cls_X0 (Or.inl (by decide)) (so_128 h0 g _) (by decide) rfl wq362 dX0_lineUp_96 ?_
              refine x_iload hx hb hl 6 rfl dX0_lineUp_99 ?_
              refine x_aload_n hx hb hl 0 rfl dX0_lineUp_101 rfl ?_
              refine x_get (j := 5) (v := .ref (h0 + 135)) hx hb hown hT hE hW cls_X0 (Or.inl (by decide)) (so_128 h0 g _) (by decide) rfl wq362 dX0_lineUp_102 ?_
              refine x_iload hx hb hl 6 rfl dX0_lineUp_105 ?_
              refine x_iconst hx hb dX0_lineUp_107 ?_
              refine x_isub hx hb dX0_lineUp_108 ?_
              refine x_iald hx hb hE hW (Or.inl (by decide)) (sa_135 h0 g _) (by omega) (by decide) dX0_lineUp_109 ?_
              refine x_rd hW (fun x33 ex33 rx33 => ?_)
              refine x_iast hx hb hE hW (by decide) (fun σ => sa_135 h0 g σ) (by omega) (by decide) rx33 dX0_lineUp_110 (fun H locs s34 es34 hW => ?_)
              have q35 : s34 1 1 = s0 1 1 := (show s34 1 1 = s29 1 1 from by rw [es34, xU_k _ _ _ (by omega)]).trans q30
              have q36 : IC s34 := by rw [es34]; exact IC_o (by decide) q31
              have hF37 := hF32.put es34 (by omega)
              refine x_iinc (lv' := [(6, .int (xJ (i6_60 + (-1)))), (0, .ref (h0 + 128)), (1, .ref (h0 + d)), (2, .int (xJ a)), (3, .int (xJ i3_5)), (4, .int (xJ i4_5)), (5, .int (xJ x12))]) hx hb hl 6 rfl dX0_lineUp_111 (by decide) rfl (fun ls hl => ?_)
              refine lv_goto (tgt := 60) hx hb dX0_lineUp_114 (by decide) ?_
              exact ih60 (i6_60 + (-1)) s34 H locs ls (by omega) hF37 q35 q36 (by omega) (by omega) hW (lv_sub hl [1, 2, 3, 4, 5, 6, 0] rfl)
          exact L60 ((i3_5 : Int).toNat + 1) i3_5 s13 H locs ls ri3_5 hF15 q16 hp14.1.1 (by omega) (Nat.lt_succ_self _) hW (lv_sub hl [2, 3, 4, 5, 6, 1, 0] rfl)
        refine x_sipush hx hb dX0_lineUp_37 (by decide) ?_
        refine lv_goto (tgt := 55) hx hb dX0_lineUp_40 (by decide) ?_
        refine lv_istore (lv' := [(5, .int (xJ 1000)), (0, .ref (h0 + 128)), (1, .ref (h0 + d)), (2, .int (xJ a)), (3, .int (xJ i3_5)), (4, .int (xJ i4_5))]) hx hb dX0_lineUp_55 hl (by decide) rfl (fun ls hl => ?_)
        refine x_iload_n hx hb hl 4 rfl dX0_lineUp_57 rfl ?_
        refine lv_istore (lv' := [(6, .int (xJ i3_5)), (5, .int (xJ 1000)), (0, .ref (h0 + 128)), (1, .ref (h0 + d)), (2, .int (xJ a)), (3, .int (xJ i3_5)), (4, .int (xJ i4_5))]) hx hb dX0_lineUp_58 hl (by decide) rfl (fun ls hl => ?_)
        have L60 : ∀ (fu : Nat) (i6_60 : Int) (s_60 : xS) (H : Heap) (locs : List Loc) (ls : Array Slot), (xR i6_60) → (xFr (fun k => k = 115 ∨ k = 116 ∨ k = 134 ∨ k = 135) s0 s_60) → (s_60 1 1 = s0 1 1) → (IC s_60) → (0 ≤ i6_60 ∧ i6_60 ≤ i3_5) → (i6_60).toNat < fu → xW D g h0 s H locs s_60 → lv_has ls 7 [(0, .ref (h0 + 128)), (1, .ref (h0 + d)), (2, .int (xJ a)), (3, .int (xJ i3_5)), (4, .int (xJ i4_5)), (5, .int (xJ 1000)), (6, .int (xJ i6_60))] → W p l e { frames := 3, cells := 0, slots := 0, locals := 73 } s m args below meth c H locs 0 0 Q (F0 m 60 ls []) := by
          intro fu
          induction fu with
          | zero => intro i6_60 s_60 H locs ls ri6_60 hF_60 q60_0 q60_1 v60_0 hm; exact absurd hm (Nat.not_lt_zero _)
          | succ fu ih60 =>
            intro i6_60 s_60 H locs ls ri6_60 hF_60 q60_0 q60_1 v60_0 hm hW hl
            refine x_iload hx hb hl 6 rfl dX0_lineUp_60 ?_
            have J117 : ∀ (ls : Array Slot), (0 ≤ i6_60 ∧ i6_60 ≤ i3_5) → lv_has ls 7 [(0, .ref (h0 + 128)), (1, .ref (h0 + d)), (2, .int (xJ a)), (3, .int (xJ i3_5)), (4, .int (xJ i4_5)), (5, .int (xJ 1000)), (6, .int (xJ i6_60))] → W p l e { frames := 3, cells := 0, slots := 0, locals := 73 } s m args below meth c H locs 0 0 Q (F0 m 117 ls []) := by
              intro ls v117_0  hl
              refine x_aload_n hx hb hl 0 rfl dX0_lineUp_117 rfl ?_
              refine x_get (j := 4) (v := .ref (h0 + 134)) hx hb hown hT hE hW cls_X0 (Or.inl (by decide)) (so_128 h0 g _) (by decide) rfl wq361 dX0_lineUp_118 ?_
              refine x_iload hx hb hl 6 rfl dX0_lineUp_121 ?_
              refine x_iload hx hb hl 4 rfl dX0_lineUp_123 ?_
              refine x_iast hx hb hE hW (by decide) (fun σ => sa_134 h0 g σ) (by omega) (by decide) ri4_5 dX0_lineUp_125 (fun H locs s38 es38 hW => ?_)
              have q39 : s38 1 1 = s0 1 1 := (show s38 1 1 = s_60 1 1 from by rw [es38, xU_k _ _ _ (by omega)]).trans q60_0
              have q40 : IC s38 := by rw [es38]; exact IC_o (by decide) q60_1
              have hF41 := hF_60.put es38 (by omega)
              refine x_aload_n hx hb hl 0 rfl dX0_lineUp_126 rfl ?_
              refine x_get (j := 5) (v := .ref (h0 + 135)) hx hb hown hT hE hW cls_X0 (Or.inl (by decide)) (so_128 h0 g _) (by decide) rfl wq362 dX0_lineUp_127 ?_
              refine x_iload hx hb hl 6 rfl dX0_lineUp_130 ?_
              refine x_iload hx hb hl 5 rfl dX0_lineUp_132 ?_
              refine x_iast hx hb hE hW (by decide) (fun σ => sa_135 h0 g σ) (by omega) (by decide) (by decide) dX0_lineUp_134 (fun H locs s42 es42 hW => ?_)
              have q43 : s42 1 1 = s0 1 1 := (show s42 1 1 = s38 1 1 from by rw [es42, xU_k _ _ _ (by omega)]).trans q39
              have q44 : IC s42 := by rw [es42]; exact IC_o (by decide) q40
              have hF45 := hF41.put es42 (by omega)
              refine x_iinc (lv' := [(3, .int (xJ (i3_5 + 1))), (0, .ref (h0 + 128)), (1, .ref (h0 + d)), (2, .int (xJ a)), (4, .int (xJ i4_5)), (5, .int (xJ 1000)), (6, .int (xJ i6_60))]) hx hb hl 3 rfl dX0_lineUp_135 (by decide) rfl (fun ls hl => ?_)
              exact J138 (i3_5 + 1) s42 H locs ls (by omega) hF45 q44 q43 (by omega) hW (lv_sub hl [1, 2, 3, 0, 4] rfl)
            refine x_if_le (tgt := 117) hx hb ri6_60 dX0_lineUp_62 (by decide) (fun c46 => ?_) (fun c46 => ?_)
            · skip
              exact J117 ls (by omega)  (lv_sub hl [0, 1, 2, 3, 4, 5, 6] rfl)
            refine x_aload_n hx hb hl 0 rfl dX0_lineUp_65 rfl ?_
            refine x_get (j := 5) (v := .ref (h0 + 135)) hx hb hown hT hE hW cls_X0 (Or.inl (by decide)) (so_128 h0 g _) (by decide) rfl wq362 dX0_lineUp_66 ?_
            refine x_iload hx hb hl 6 rfl dX0_lineUp_69 ?_
            refine x_iconst hx hb dX0_lineUp_71 ?_
            refine x_isub hx hb dX0_lineUp_72 ?_
            refine x_iald hx hb hE hW (Or.inl (by decide)) (sa_135 h0 g _) (by omega) (by decide) dX0_lineUp_73 ?_
            refine x_rd hW (fun x47 ex47 rx47 => ?_)
            refine x_iload hx hb hl 5 rfl dX0_lineUp_74 ?_
            refine x_icmp_ge (tgt := 117) hx hb rx47 (by decide) dX0_lineUp_76 (by decide) (fun c48 => ?_) (fun c48 => ?_)
            · skip
              exact J117 ls (by omega)  (lv_sub hl [0, 1, 2, 3, 4, 5, 6] rfl)
            refine x_aload_n hx hb hl 0 rfl dX0_lineUp_79 rfl ?_
            refine x_get (j := 4) (v := .ref (h0 + 134)) hx hb hown hT hE hW cls_X0 (Or.inl (by decide)) (so_128 h0 g _) (by decide) rfl wq361 dX0_lineUp_80 ?_
            refine x_iload hx hb hl 6 rfl dX0_lineUp_83 ?_
            refine x_aload_n hx hb hl 0 rfl dX0_lineUp_85 rfl ?_
            refine x_get (j := 4) (v := .ref (h0 + 134)) hx hb hown hT hE hW cls_X0 (Or.inl (by decide)) (so_128 h0 g _) (by decide) rfl wq361 dX0_lineUp_86 ?_
            refine x_iload hx hb hl 6 rfl dX0_lineUp_89 ?_
            refine x_iconst hx hb dX0_lineUp_91 ?_
            refine x_isub hx hb dX0_lineUp_92 ?_
            refine x_iald hx hb hE hW (Or.inl (by decide)) (sa_134 h0 g _) (by omega) (by decide) dX0_lineUp_93 ?_
            refine x_rd hW (fun x49 ex49 rx49 => ?_)
            refine x_iast hx hb hE hW (by decide) (fun σ => sa_134 h0 g σ) (by omega) (by decide) rx49 dX0_lineUp_94 (fun H locs s50 es50 hW => ?_)
            have q51 : s50 1 1 = s0 1 1 := (show s50 1 1 = s_60 1 1 from by rw [es50, xU_k _ _ _ (by omega)]).trans q60_0
            have q52 : IC s50 := by rw [es50]; exact IC_o (by decide) q60_1
            have hF53 := hF_60.put es50 (by omega)
            refine x_aload_n hx hb hl 0 rfl dX0_lineUp_95 rfl ?_
            refine x_get (j := 5) (v := .ref (h0 + 135)) hx hb hown hT hE hW cls_X0 (Or.inl (by decide)) (so_128 h0 g _) (by decide) rfl wq362 dX0_lineUp_96 ?_
            refine x_iload hx hb hl 6 rfl dX0_lineUp_99 ?_
            refine x_aload_n hx hb hl 0 rfl dX0_lineUp_101 rfl ?_
            refine x_get (j := 5) (v := .ref (h0 + 135)) hx hb hown hT hE hW cls_X0 (Or.inl (by decide)) (so_128 h0 g _) (by decide) rfl wq362 dX0_lineUp_102 ?_
            refine x_iload hx hb hl 6 rfl dX0_lineUp_105 ?_
            refine x_iconst hx hb dX0_lineUp_107 ?_
            refine x_isub hx hb dX0_lineUp_108 ?_
            refine x_iald hx hb hE hW (Or.inl (by decide)) (sa_135 h0 g _) (by omega) (by decide) dX0_lineUp_109 ?_
            refine x_rd hW (fun x54 ex54 rx54 => ?_)
            refine x_iast hx hb hE hW (by decide) (fun σ => sa_135 h0 g σ) (by omega) (by decide) rx54 dX0_lineUp_110 (fun H locs s55 es55 hW => ?_)
            have q56 : s55 1 1 = s0 1 1 := (show s55 1 1 = s50 1 1 from by rw [es55, xU_k _ _ _ (by omega)]).trans q51
            have q57 : IC s55 := by rw [es55]; exact IC_o (by decide) q52
            have hF58 := hF53.put es55 (by omega)
            refine x_iinc (lv' := [(6, .int (xJ (i6_60 + (-1)))), (0, .ref (h0 + 128)), (1, .ref (h0 + d)), (2, .int (xJ a)), (3, .int (xJ i3_5)), (4, .int (xJ i4_5)), (5, .int (xJ 1000))]) hx hb hl 6 rfl dX0_lineUp_111 (by decide) rfl (fun ls hl => ?_)
            refine lv_goto (tgt := 60) hx hb dX0_lineUp_114 (by decide) ?_
            exact ih60 (i6_60 + (-1)) s55 H locs ls (by omega) hF58 q56 q57 (by omega) (by omega) hW (lv_sub hl [1, 2, 3, 4, 5, 6, 0] rfl)
        exact L60 ((i3_5 : Int).toNat + 1) i3_5 s7 H locs ls ri3_5 hF9 q10 hp8.1.1 (by omega) (Nat.lt_succ_self _) hW (lv_sub hl [2, 3, 4, 5, 6, 1, 0] rfl)
      refine lv_goto (tgt := 138) hx hb dX0_lineUp_21 (by decide) ?_
      exact J138 i3_5 s_5 H locs ls ri3_5 hF_5 q5_0 q5_1 (by omega) hW (lv_sub hl [0, 1, 2, 3, 4] rfl)
  exact L5 ((10 + 1 - 0 : Int).toNat + 1) 0 0 s0 H locs ls (by decide) (by decide) hF p0 k1_1 (by omega) (by omega) (by omega) (Nat.lt_succ_self _) hW (lv_sub hl [2, 3, 4, 1, 0] rfl)
set_option maxHeartbeats 4000000 in
set_option maxRecDepth 100000 in
theorem c_X0_findShadow (l : Launch) (D : va_G) (g : xG) (T : Nat × Nat × Nat) (h0 : Nat) (s0 : xS) (hσ : xRR s0) (d : Nat) (hd : xDay d) (f : Int) (rf : xR f) (q : Int) (rq : xR q) (hq0 : 0 ≤ q ∧ q ≤ 3) (p0 : IC s0) : Met l yX0_findShadow (xws yX0_findShadow cX0_findShadow 9 (some .int)) { frames := 3, cells := 0, slots := 0, locals := 73 } (xP [.ref (h0 + 128), .ref (h0 + d), .int (xJ f), .int (xJ q)] D g T h0 s0) (xQi D g h0 (fun r τ => xFr (fun k => (7 ≤ k ∧ k < 107) ∨ k = 107 ∨ k = d) s0 τ ∧ (((IC τ) ∧ (τ d 7 = s0 d 7) ∧ True) ∧ (True)))) 0 0 (xA h0) := by
  refine x_met hσ (by decide) (Nat.le_of_ble_eq_true rfl) ?_
  intro p e s m args below meth c hx hb hr hml hown hT hlk hnm hE hW ls hl
  have hl : lv_has ls 9 [(0, .ref (h0 + 128)), (1, .ref (h0 + d)), (2, .int (xJ f)), (3, .int (xJ q))] := hl
  obtain ⟨Q, eQ⟩ : ∃ Q, Q = MQ below (xQi D g h0 (fun r τ => xFr (fun k => (7 ≤ k ∧ k < 107) ∨ k = 107 ∨ k = d) s0 τ ∧ (((IC τ) ∧ (τ d 7 = s0 d 7) ∧ True) ∧ (True)))) args s 0 0 (xA h0) := ⟨_, rfl⟩
  rw [← eQ]
  generalize hHe : ([] : List Loc) = locs at hW ⊢
  obtain ⟨H, eH⟩ : ∃ H, H = s.heap := ⟨_, rfl⟩
  rw [← eH] at hW ⊢
  have hF : xFr (fun k => (7 ≤ k ∧ k < 107) ∨ k = 107 ∨ k = d) s0 s0 := xFr.rf
  have hbd : (136 ≤ d ∧ d < 209) ∧ (d ≤ 146 ∨ 158 ≤ d) := by unfold xDay at hd; omega
  have k1_1 : s0 1 1 = s0 1 1 := rfl
  have kd_7 : s0 d 7 = s0 d 7 := rfl
  refine x_aload_n hx hb hl 1 rfl dX0_findShadow_0 rfl ?_
  refine x_iload_n hx hb hl 2 rfl dX0_findShadow_1 rfl ?_
  refine x_goi (x_runVN (As := [.int (xJ f)]) hx hb hml hown hT hE hW hl.1 (Or.inl (by omega)) (so_day0 h0 g hd _) rfl cf_X2_hasFelon wq862 wq53 wn868 (c_X2_hasFelon l D g T h0 s0 hW.2.1 d hd f rf p0) ⟨rfl, rfl, ⟨by decide, by decide⟩, ⟨by decide, by decide⟩⟩ rfl rfl (Nat.le_of_ble_eq_true rfl) dX0_findShadow_2) hW (fun x1 s2 H locs rx1 hp3 hW => ?_)
  obtain ⟨es2, hp3⟩ := hp3
  subst es2
  have ghp3 := hp3
  refine x_if_ne (tgt := 10) hx hb rx1 dX0_findShadow_5 (by decide) (fun c4 => ?_) (fun c4 => ?_)
  · skip
    refine x_iload_n hx hb hl 3 rfl dX0_findShadow_10 rfl ?_
    refine x_iconst hx hb dX0_findShadow_11 ?_
    refine x_iadd hx hb dX0_findShadow_12 ?_
    refine x_nm (fun x5 ex5 => ?_)
    refine lv_istore (lv' := [(4, .int (xJ x5)), (0, .ref (h0 + 128)), (1, .ref (h0 + d)), (2, .int (xJ f)), (3, .int (xJ q))]) hx hb dX0_findShadow_13 hl (by decide) rfl (fun ls hl => ?_)
    refine x_iconst hx hb dX0_findShadow_15 ?_
    refine lv_istore (lv' := [(5, .int (xJ (-1))), (4, .int (xJ x5)), (0, .ref (h0 + 128)), (1, .ref (h0 + d)), (2, .int (xJ f)), (3, .int (xJ q))]) hx hb dX0_findShadow_16 hl (by decide) rfl (fun ls hl => ?_)
    refine x_iconst hx hb dX0_findShadow_18 ?_
    refine lv_istore (lv' := [(6, .int (xJ 0)), (5, .int (xJ (-1))), (4, .int (xJ x5)), (0, .ref (h0 + 128)), (1, .ref (h0 + d)), (2, .int (xJ f)), (3, .int (xJ q))]) hx hb dX0_findShadow_19 hl (by decide) rfl (fun ls hl => ?_)
    have L21 : ∀ (fu : Nat) (i4_21 : Int) (i5_21 : Int) (i6_21 : Int) (s_21 : xS) (H : Heap) (locs : List Loc) (ls : Array Slot), (xR i4_21) → (xR i5_21) → (xR i6_21) → (xFr (fun k => (7 ≤ k ∧ k < 107) ∨ k = 107 ∨ k = d) s0 s_21) → (IC s_21) → (s_21 1 1 = s0 1 1) → (s_21 d 7 = s0 d 7) → (0 ≤ i6_21) → (100 - i6_21).toNat < fu → xW D g h0 s H locs s_21 → lv_has ls 9 [(0, .ref (h0 + 128)), (1, .ref (h0 + d)), (2, .int (xJ f)), (4, .int (xJ i4_21)), (5, .int (xJ i5_21)), (6, .int (xJ i6_21))] → W p l e { frames := 3, cells := 0, slots := 0, locals := 73 } s m args below meth c H locs 0 0 Q (F0 m 21 ls []) := by
      intro fu
      induction fu with
      | zero => intro i4_21 i5_21 i6_21 s_21 H locs ls ri4_21 ri5_21 ri6_21 hF_21 q21_0 q21_1 q21_2 v21_0 hm; exact absurd hm (Nat.not_lt_zero _)
      | succ fu ih21 =>
        intro i4_21 i5_21 i6_21 s_21 H locs ls ri4_21 ri5_21 ri6_21 hF_21 q21_0 q21_1 q21_2 v21_0 hm hW hl
        refine x_iload hx hb hl 5 rfl dX0_findShadow_21 ?_
        refine x_aload_n hx hb hl 0 rfl dX0_findShadow_23 rfl ?_
        refine x_get (j := 3) (v := .ref (h0 + 130)) hx hb hown hT hE hW cls_X0 (Or.inl (by decide)) (so_128 h0 g _) (by decide) rfl wq357 dX0_findShadow_24 ?_
        refine x_getN (j := 3) (v := .int (xJ (s_21 130 3))) hx hb hown hT hE hW cls_X7 (Or.inl (by decide)) (so_130 h0 g _) (by decide) rfl wn340 dX0_findShadow_27 ?_
        refine x_rd hW (fun x6 ex6 rx6 => ?_)
        have bx6 : 0 ≤ x6 ∧ x6 ≤ 100 := by rw [ex6]; exact IC.z q21_0
        have J128 : ∀ (ls : Array Slot), lv_has ls 9 [(1, .ref (h0 + d)), (4, .int (xJ i4_21)), (5, .int (xJ i5_21))] → W p l e { frames := 3, cells := 0, slots := 0, locals := 73 } s m args below meth c H locs 0 0 Q (F0 m 128 ls []) := by
          intro ls   hl
          refine x_iload hx hb hl 2 rfl dX0_findShadow_128 ?_
          refine x_iconst hx hb dX0_findShadow_130 ?_
          refine x_icmp_eq (tgt := 145) hx hb ri5_21 (by decide) dX0_findShadow_131 (by decide) (fun c7 => ?_) (fun c7 => ?_)
          · skip
            refine x_iload hx hb hl 2 rfl dX0_findShadow_145 ?_
            rw [eQ]
            exact x_iret hx hb hr hlk hW ri5_21 ⟨hF_21, ⟨q21_0, q21_2, trivial⟩, trivial⟩ dX0_findShadow_147
          refine x_aload_n hx hb hl 0 rfl dX0_findShadow_134 rfl ?_
          refine lv_dup hx hb dX0_findShadow_135 rfl ?_
          refine x_getN (j := 11) (v := .int (xJ (s_21 d 11))) hx hb hown hT hE hW cls_X2 (Or.inl (by omega)) (so_day0 h0 g hd _) (by decide) rfl wn414 dX0_findShadow_136 ?_
          refine x_rd hW (fun x8 ex8 rx8 => ?_)
          refine x_iload hx hb hl 1 rfl dX0_findShadow_139 ?_
          refine x_iadd hx hb dX0_findShadow_141 ?_
          refine x_any (fun x9 rx9 => ?_)
          refine x_putN (j := 11) hx hb hown hT hE hW cls_X2 (by omega) (fun σ => so_day0 h0 g hd σ) (by decide) (st_X2_11 h0 s_21 d x9) (ln_X2_11 h0 _ _) wn414 rfl rfl rfl rx9 dX0_findShadow_142 (fun H locs s10 es10 hW => ?_)
          have q11 : IC s10 := by rw [es10]; exact IC_d hd q21_0 (by omega)
          have q12 : s10 1 1 = s0 1 1 := (show s10 1 1 = s_21 1 1 from by rw [es10, xU_k _ _ _ (by omega)]).trans q21_1
          have q13 : s10 d 7 = s0 d 7 := (show s10 d 7 = s_21 d 7 from by rw [es10, xU_j _ _ (by decide)]).trans q21_2
          have hF14 := hF_21.put es10 (by omega)
          refine x_iload hx hb hl 2 rfl dX0_findShadow_145 ?_
          rw [eQ]
          exact x_iret hx hb hr hlk hW ri5_21 ⟨hF14, ⟨q11, q13, trivial⟩, trivial⟩ dX0_findShadow_147
        refine x_icmp_ge (tgt := 128) hx hb ri6_21 rx6 dX0_findShadow_30 (by decide) (fun c15 => ?_) (fun c15 => ?_)
        · skip
          exact J128 ls   (lv_sub hl [1, 3, 4] rfl)
        refine x_iload hx hb hl 5 rfl dX0_findShadow_33 ?_
        refine x_bipush hx hb dX0_findShadow_35 (by decide) ?_
        refine x_icmp_ge (tgt := 128) hx hb ri6_21 (by decide) dX0_findShadow_37 (by decide) (fun c16 => ?_) (fun c16 => ?_)
        · skip
          exact J128 ls   (lv_sub hl [1, 3, 4] rfl)
        refine x_aload_n hx hb hl 0 rfl dX0_findShadow_40 rfl ?_
        refine x_get (j := 3) (v := .ref (h0 + 130)) hx hb hown hT hE hW cls_X0 (Or.inl (by decide)) (so_128 h0 g _) (by decide) rfl wq357 dX0_findShadow_41 ?_
        refine x_getN (j := 1) (v := .ref (h0 + 132)) hx hb hown hT hE hW cls_X7 (Or.inl (by decide)) (so_130 h0 g _) (by decide) rfl wn334 dX0_findShadow_44 ?_
        refine x_iload hx hb hl 5 rfl dX0_findShadow_47 ?_
        refine x_iald hx hb hE hW (Or.inl (by decide)) (sa_132 h0 g _) (by omega) (by decide) dX0_findShadow_49 ?_
        refine x_rd hW (fun x17 ex17 rx17 => ?_)
        refine lv_istore (lv' := [(7, .int (xJ x17)), (0, .ref (h0 + 128)), (1, .ref (h0 + d)), (2, .int (xJ f)), (4, .int (xJ i4_21)), (5, .int (xJ i5_21)), (6, .int (xJ i6_21))]) hx hb dX0_findShadow_50 hl (by decide) rfl (fun ls hl => ?_)
        refine x_iload hx hb hl 0 rfl dX0_findShadow_52 ?_
        refine x_goi (x_runSN (As := [.int (xJ x17)]) hx hb hml hown hT hE hW hl.1 cf_X6_isSpot wq831 wn885 (c_X6_isSpot l D g T h0 s_21 hW.2.1 x17 rx17) ⟨rfl, rfl, ⟨by decide, by decide⟩, ⟨by decide, by decide⟩⟩ rfl rfl (Nat.le_of_ble_eq_true rfl) dX0_findShadow_54) hW (fun x18 s19 H locs rx18 hp20 hW => ?_)
        obtain ⟨es19, hp20⟩ := hp20
        subst es19
        have ghp20 := hp20
        refine x_if_eq (tgt := 122) hx hb rx18 dX0_findShadow_57 (by decide) (fun c21 => ?_) (fun c21 => ?_)
        · skip
          refine x_iinc (lv' := [(6, .int (xJ (i6_21 + 1))), (7, .int (xJ x17)), (0, .ref (h0 + 128)), (1, .ref (h0 + d)), (2, .int (xJ f)), (4, .int (xJ i4_21)), (5, .int (xJ i5_21))]) hx hb hl 6 rfl dX0_findShadow_122 (by decide) rfl (fun ls hl => ?_)
          refine lv_goto (tgt := 21) hx hb dX0_findShadow_125 (by decide) ?_
          exact ih21 i4_21 i5_21 (i6_21 + 1) s_21 H locs ls ri4_21 ri5_21 (by omega) hF_21 q21_0 q21_1 q21_2 (by omega) (by omega) hW (lv_sub hl [2, 3, 4, 5, 6, 0] rfl)
        refine x_aload_n hx hb hl 1 rfl dX0_findShadow_60 rfl ?_
        refine x_get (j := 3) (v := .ref (h0 + 130)) hx hb hown hT hE hW cls_X0 (Or.inl (by decide)) (so_128 h0 g _) (by decide) rfl wq357 dX0_findShadow_61 ?_
        refine x_getN (j := 2) (v := .ref (h0 + 133)) hx hb hown hT hE hW cls_X7 (Or.inl (by decide)) (so_130 h0 g _) (by decide) rfl wn336 dX0_findShadow_64 ?_
        refine x_iload hx hb hl 0 rfl dX0_findShadow_67 ?_
        refine x_zald hx hb hE hW (Or.inl (by decide)) (sa_133 h0 g _) (by omega) (by decide) dX0_findShadow_69 ?_
        refine x_rd hW (fun x22 ex22 rx22 => ?_)
        refine x_if_eq (tgt := 76) hx hb rx22 dX0_findShadow_70 (by decide) (fun c23 => ?_) (fun c23 => ?_)
        · skip
          refine x_aload_n hx hb hl 1 rfl dX0_findShadow_76 rfl ?_
          refine x_get (j := 0) (v := .ref (h0 + 3)) hx hb hown hT hE hW cls_X0 (Or.inl (by decide)) (so_128 h0 g _) (by decide) rfl wq351 dX0_findShadow_77 ?_
          refine x_aload_n hx hb hl 2 rfl dX0_findShadow_80 rfl ?_
          refine x_getN (j := 3) (v := .ref (h0 + (d + 6))) hx hb hown hT hE hW cls_X2 (Or.inl (by omega)) (so_day0 h0 g hd _) (by decide) rfl wn390 dX0_findShadow_81 ?_
          refine x_iload_n hx hb hl 3 rfl dX0_findShadow_84 rfl ?_
          refine x_iald hx hb hE hW (Or.inl (by omega)) (sa_day6 h0 g hd _) (by omega) (by decide) dX0_findShadow_85 ?_
          refine x_rd hW (fun x24 ex24 rx24 => ?_)
          refine x_iload hx hb hl 0 rfl dX0_findShadow_86 ?_
          refine x_goi (x_runVN (As := [.int (xJ x24), .int (xJ x17)]) hx hb hml hown hT hE hW hl.1 (Or.inl (by decide)) (so_3 h0 g _) rfl cf_X6_stepsBetween wq888 wq59 wn886 (c_X6_stepsBetween l D g T h0 s_21 hW.2.1 x24 rx24 x17 rx17 q21_0) ⟨rfl, rfl, ⟨by decide, by decide⟩, ⟨by decide, by decide⟩⟩ rfl rfl (Nat.le_of_ble_eq_true rfl) dX0_findShadow_88) hW (fun x25 s26 H locs rx25 hp27 hW => ?_)
          obtain ⟨fs26, hp27⟩ := hp27
          have hF28 := hF_21.call fs26 (fun k h => by omega)
          have q29 : s26 1 1 = s0 1 1 := (congrFun (fs26 _ (by omega)) _).trans q21_1
          have q30 : s26 d 7 = s0 d 7 := (congrFun (fs26 _ (by omega)) _).trans q21_2
          have ghp27 := hp27.2
          refine lv_istore (lv' := [(8, .int (xJ x25)), (7, .int (xJ x17)), (0, .ref (h0 + 128)), (1, .ref (h0 + d)), (2, .int (xJ f)), (4, .int (xJ i4_21)), (5, .int (xJ i5_21)), (6, .int (xJ i6_21))]) hx hb dX0_findShadow_91 hl (by decide) rfl (fun ls hl => ?_)
          refine x_iload hx hb hl 0 rfl dX0_findShadow_93 ?_
          refine x_iload hx hb hl 5 rfl dX0_findShadow_95 ?_
          refine x_icmp_lt (tgt := 114) hx hb rx25 ri4_21 dX0_findShadow_97 (by decide) (fun c31 => ?_) (fun c31 => ?_)
          · skip
            refine x_iload hx hb hl 0 rfl dX0_findShadow_114 ?_
            refine lv_istore (lv' := [(4, .int (xJ x25)), (8, .int (xJ x25)), (7, .int (xJ x17)), (0, .ref (h0 + 128)), (1, .ref (h0 + d)), (2, .int (xJ f)), (5, .int (xJ i5_21)), (6, .int (xJ i6_21))]) hx hb dX0_findShadow_116 hl (by decide) rfl (fun ls hl => ?_)
            refine x_iload hx hb hl 2 rfl dX0_findShadow_118 ?_
            refine lv_istore (lv' := [(5, .int (xJ x17)), (4, .int (xJ x25)), (8, .int (xJ x25)), (7, .int (xJ x17)), (0, .ref (h0 + 128)), (1, .ref (h0 + d)), (2, .int (xJ f)), (6, .int (xJ i6_21))]) hx hb dX0_findShadow_120 hl (by decide) rfl (fun ls hl => ?_)
            refine x_iinc (lv' := [(6, .int (xJ (i6_21 + 1))), (5, .int (xJ x17)), (4, .int (xJ x25)), (8, .int (xJ x25)), (7, .int (xJ x17)), (0, .ref (h0 + 128)), (1, .ref (h0 + d)), (2, .int (xJ f))]) hx hb hl 7 rfl dX0_findShadow_122 (by decide) rfl (fun ls hl => ?_)
            refine lv_goto (tgt := 21) hx hb dX0_findShadow_125 (by decide) ?_
            exact ih21 x25 x17 (i6_21 + 1) s26 H locs ls rx25 rx17 (by omega) hF28 hp27.1.1 q29 q30 (by omega) (by omega) hW (lv_sub hl [5, 6, 7, 2, 1, 0] rfl)
          refine x_iload hx hb hl 0 rfl dX0_findShadow_100 ?_
          refine x_iload hx hb hl 5 rfl dX0_findShadow_102 ?_
          refine x_icmp_ne (tgt := 122) hx hb rx25 ri4_21 dX0_findShadow_104 (by decide) (fun c32 => ?_) (fun c32 => ?_)
          · skip
            refine x_iinc (lv' := [(6, .int (xJ (i6_21 + 1))), (8, .int (xJ x25)), (7, .int (xJ x17)), (0, .ref (h0 + 128)), (1, .ref (h0 + d)), (2, .int (xJ f)), (4, .int (xJ i4_21)), (5, .int (xJ i5_21))]) hx hb hl 7 rfl dX0_findShadow_122 (by decide) rfl (fun ls hl => ?_)
            refine lv_goto (tgt := 21) hx hb dX0_findShadow_125 (by decide) ?_
            exact ih21 i4_21 i5_21 (i6_21 + 1) s26 H locs ls ri4_21 ri5_21 (by omega) hF28 hp27.1.1 q29 q30 (by omega) (by omega) hW (lv_sub hl [3, 4, 5, 6, 7, 0] rfl)
          refine x_iload hx hb hl 1 rfl dX0_findShadow_107 ?_
          refine x_iload hx hb hl 6 rfl dX0_findShadow_109 ?_
          refine x_icmp_ge (tgt := 122) hx hb rx17 ri5_21 dX0_findShadow_111 (by decide) (fun c33 => ?_) (fun c33 => ?_)
          · skip
            refine x_iinc (lv' := [(6, .int (xJ (i6_21 + 1))), (8, .int (xJ x25)), (7, .int (xJ x17)), (0, .ref (h0 + 128)), (1, .ref (h0 + d)), (2, .int (xJ f)), (4, .int (xJ i4_21)), (5, .int (xJ i5_21))]) hx hb hl 7 rfl dX0_findShadow_122 (by decide) rfl (fun ls hl => ?_)
            refine lv_goto (tgt := 21) hx hb dX0_findShadow_125 (by decide) ?_
            exact ih21 i4_21 i5_21 (i6_21 + 1) s26 H locs ls ri4_21 ri5_21 (by omega) hF28 hp27.1.1 q29 q30 (by omega) (by omega) hW (lv_sub hl [3, 4, 5, 6, 7, 0] rfl)
          refine x_iload hx hb hl 0 rfl dX0_findShadow_114 ?_
          refine lv_istore (lv' := [(4, .int (xJ x25)), (8, .int (xJ x25)), (7, .int (xJ x17)), (0, .ref (h0 + 128)), (1, .ref (h0 + d)), (2, .int (xJ f)), (5, .int (xJ i5_21)), (6, .int (xJ i6_21))]) hx hb dX0_findShadow_116 hl (by decide) rfl (fun ls hl => ?_)
          refine x_iload hx hb hl 2 rfl dX0_findShadow_118 ?_
          refine lv_istore (lv' := [(5, .int (xJ x17)), (4, .int (xJ x25)), (8, .int (xJ x25)), (7, .int (xJ x17)), (0, .ref (h0 + 128)), (1, .ref (h0 + d)), (2, .int (xJ f)), (6, .int (xJ i6_21))]) hx hb dX0_findShadow_120 hl (by decide) rfl (fun ls hl => ?_)
          refine x_iinc (lv' := [(6, .int (xJ (i6_21 + 1))), (5, .int (xJ x17)), (4, .int (xJ x25)), (8, .int (xJ x25)), (7, .int (xJ x17)), (0, .ref (h0 + 128)), (1, .ref (h0 + d)), (2, .int (xJ f))]) hx hb hl 7 rfl dX0_findShadow_122 (by decide) rfl (fun ls hl => ?_)
          refine lv_goto (tgt := 21) hx hb dX0_findShadow_125 (by decide) ?_
          exact ih21 x25 x17 (i6_21 + 1) s26 H locs ls rx25 rx17 (by omega) hF28 hp27.1.1 q29 q30 (by omega) (by omega) hW (lv_sub hl [5, 6, 7, 2, 1, 0] rfl)
        refine lv_goto (tgt := 122) hx hb dX0_findShadow_73 (by decide) ?_
        refine x_iinc (lv' := [(6, .int (xJ (i6_21 + 1))), (7, .int (xJ x17)), (0, .ref (h0 + 128)), (1, .ref (h0 + d)), (2, .int (xJ f)), (4, .int (xJ i4_21)), (5, .int (xJ i5_21))]) hx hb hl 6 rfl dX0_findShadow_122 (by decide) rfl (fun ls hl => ?_)
        refine lv_goto (tgt := 21) hx hb dX0_findShadow_125 (by decide) ?_
        exact ih21 i4_21 i5_21 (i6_21 + 1) s_21 H locs ls ri4_21 ri5_21 (by omega) hF_21 q21_0 q21_1 q21_2 (by omega) (by omega) hW (lv_sub hl [2, 3, 4, 5, 6, 0] rfl)
    exact L21 ((100 - 0 : Int).toNat + 1) x5 (-1) 0 s0 H locs ls (by omega) (by decide) (by decide) hF p0 k1_1 kd_7 (by omega) (Nat.lt_succ_self _) hW (lv_sub hl [3, 4, 5, 2, 1, 0] rfl)
  refine x_iconst hx hb dX0_findShadow_8 ?_
  rw [eQ]
  exact x_iret hx hb hr hlk hW (by decide) ⟨hF, ⟨p0, kd_7, trivial⟩, trivial⟩ dX0_findShadow_9
set_option maxHeartbeats 4000000 in
set_option maxRecDepth 100000 in
theorem c_X0_felonsGo (l : Launch) (D : va_G) (g : xG) (T : Nat × Nat × Nat) (h0 : Nat) (s0 : xS) (hσ : xRR s0) (d : Nat) (hd : xDay d) (a : Int) (ra : xR a) (b : Int) (rb : xR b) (p0 : IC s0) : Met l yX0_felonsGo (xws yX0_felonsGo cX0_felonsGo 8 none) { frames := 4, cells := 0, slots := 0, locals := 101 } (xP [.ref (h0 + 128), .ref (h0 + d), .int (xJ a), .int (xJ b)] D g T h0 s0) (xQv D g h0 (fun τ => xFr (fun k => (7 ≤ k ∧ k < 107) ∨ k = 107 ∨ k = 115 ∨ k = 116 ∨ k = 133 ∨ k = d ∨ k = d + 6 ∨ k = d + 7 ∨ k = d + 8 ∨ k = d + 9) s0 τ ∧ (((IC τ) ∧ (τ d 7 = s0 d 7) ∧ True) ∧ (True)))) 0 0 (xA h0) := by
  refine x_met hσ (by decide) (Nat.le_of_ble_eq_true rfl) ?_
  intro p e s m args below meth c hx hb hr hml hown hT hlk hnm hE hW ls hl
  have hl : lv_has ls 8 [(0, .ref (h0 + 128)), (1, .ref (h0 + d)), (2, .int (xJ a)), (3, .int (xJ b))] := hl
  obtain ⟨Q, eQ⟩ : ∃ Q, Q = MQ below (xQv D g h0 (fun τ => xFr (fun k => (7 ≤ k ∧ k < 107) ∨ k = 107 ∨ k = 115 ∨ k = 116 ∨ k = 133 ∨ k = d ∨ k = d + 6 ∨ k = d + 7 ∨ k = d + 8 ∨ k = d + 9) s0 τ ∧ (((IC τ) ∧ (τ d 7 = s0 d 7) ∧ True) ∧ (True)))) args s 0 0 (xA h0) := ⟨_, rfl⟩
  rw [← eQ]
  generalize hHe : ([] : List Loc) = locs at hW ⊢
  obtain ⟨H, eH⟩ : ∃ H, H = s.heap := ⟨_, rfl⟩
  rw [← eH] at hW ⊢
  have hF : xFr (fun k => (7 ≤ k ∧ k < 107) ∨ k = 107 ∨ k = 115 ∨ k = 116 ∨ k = 133 ∨ k = d ∨ k = d + 6 ∨ k = d + 7 ∨ k = d + 8 ∨ k = d + 9) s0 s0 := xFr.rf
  have hbd : (136 ≤ d ∧ d < 209) ∧ (d ≤ 146 ∨ 158 ≤ d) := by unfold xDay at hd; omega
  have k1_1 : s0 1 1 = s0 1 1 := rfl
  have kd_7 : s0 d 7 = s0 d 7 := rfl
  refine x_iconst hx hb dX0_felonsGo_0 ?_
  refine lv_istore (lv' := [(4, .int (xJ 0)), (0, .ref (h0 + 128)), (1, .ref (h0 + d)), (2, .int (xJ a)), (3, .int (xJ b))]) hx hb dX0_felonsGo_1 hl (by decide) rfl (fun ls hl => ?_)
  have L3 : ∀ (fu : Nat) (i4_3 : Int) (s_3 : xS) (H : Heap) (locs : List Loc) (ls : Array Slot), (xR i4_3) → (xFr (fun k => (7 ≤ k ∧ k < 107) ∨ k = 107 ∨ k = 115 ∨ k = 116 ∨ k = 133 ∨ k = d ∨ k = d + 6 ∨ k = d + 7 ∨ k = d + 8 ∨ k = d + 9) s0 s_3) → (IC s_3) → (s_3 1 1 = s0 1 1) → (s_3 d 7 = s0 d 7) → (0 ≤ i4_3) → (a + 1 - i4_3).toNat < fu → xW D g h0 s H locs s_3 → lv_has ls 8 [(0, .ref (h0 + 128)), (1, .ref (h0 + d)), (2, .int (xJ a)), (3, .int (xJ b)), (4, .int (xJ i4_3))] → W p l e { frames := 4, cells := 0, slots := 0, locals := 101 } s m args below meth c H locs 0 0 Q (F0 m 3 ls []) := by
    intro fu
    induction fu with
    | zero => intro i4_3 s_3 H locs ls ri4_3 hF_3 q3_0 q3_1 q3_2 v3_0 hm; exact absurd hm (Nat.not_lt_zero _)
    | succ fu ih3 =>
      intro i4_3 s_3 H locs ls ri4_3 hF_3 q3_0 q3_1 q3_2 v3_0 hm hW hl
      refine x_iload hx hb hl 4 rfl dX0_felonsGo_3 ?_
      refine x_iload_n hx hb hl 2 rfl dX0_felonsGo_5 rfl ?_
      refine x_icmp_ge (tgt := 209) hx hb ri4_3 ra dX0_felonsGo_6 (by decide) (fun c1 => ?_) (fun c1 => ?_)
      · skip
        rw [eQ]
        exact x_vret hx hb hr hlk hW ⟨hF_3, ⟨q3_0, q3_2, trivial⟩, trivial⟩ dX0_felonsGo_209
      refine x_iload hx hb hl 4 rfl dX0_felonsGo_9 ?_
      refine x_bipush hx hb dX0_felonsGo_11 (by decide) ?_
      refine x_icmp_ge (tgt := 209) hx hb ri4_3 (by decide) dX0_felonsGo_13 (by decide) (fun c2 => ?_) (fun c2 => ?_)
      · skip
        rw [eQ]
        exact x_vret hx hb hr hlk hW ⟨hF_3, ⟨q3_0, q3_2, trivial⟩, trivial⟩ dX0_felonsGo_209
      refine x_aload_n hx hb hl 0 rfl dX0_felonsGo_16 rfl ?_
      refine x_get (j := 4) (v := .ref (h0 + 134)) hx hb hown hT hE hW cls_X0 (Or.inl (by decide)) (so_128 h0 g _) (by decide) rfl wq361 dX0_felonsGo_17 ?_
      refine x_iload hx hb hl 4 rfl dX0_felonsGo_20 ?_
      refine x_iald hx hb hE hW (Or.inl (by decide)) (sa_134 h0 g _) (by omega) (by decide) dX0_felonsGo_22 ?_
      refine x_rd hW (fun x3 ex3 rx3 => ?_)
      refine lv_istore (lv' := [(5, .int (xJ x3)), (0, .ref (h0 + 128)), (1, .ref (h0 + d)), (2, .int (xJ a)), (3, .int (xJ b)), (4, .int (xJ i4_3))]) hx hb dX0_felonsGo_23 hl (by decide) rfl (fun ls hl => ?_)
      refine x_aload_n hx hb hl 2 rfl dX0_felonsGo_25 rfl ?_
      refine x_iload hx hb hl 0 rfl dX0_felonsGo_26 ?_
      refine x_goi (x_runVN (As := [.int (xJ x3)]) hx hb hml hown hT hE hW hl.1 (Or.inl (by omega)) (so_day0 h0 g hd _) rfl cf_X2_hasFelon wq862 wq53 wn868 (c_X2_hasFelon l D g T h0 s_3 hW.2.1 d hd x3 rx3 q3_0) ⟨rfl, rfl, ⟨by decide, by decide⟩, ⟨by decide, by decide⟩⟩ rfl rfl (Nat.le_of_ble_eq_true rfl) dX0_felonsGo_28) hW (fun x4 s5 H locs rx4 hp6 hW => ?_)
      obtain ⟨es5, hp6⟩ := hp6
      subst es5
      have ghp6 := hp6
      refine x_if_ne (tgt := 37) hx hb rx4 dX0_felonsGo_31 (by decide) (fun c7 => ?_) (fun c7 => ?_)
      · skip
        refine x_aload_n hx hb hl 1 rfl dX0_felonsGo_37 rfl ?_
        refine x_get (j := 3) (v := .ref (h0 + 130)) hx hb hown hT hE hW cls_X0 (Or.inl (by decide)) (so_128 h0 g _) (by decide) rfl wq357 dX0_felonsGo_38 ?_
        refine x_getN (j := 3) (v := .int (xJ (s_3 130 3))) hx hb hown hT hE hW cls_X7 (Or.inl (by decide)) (so_130 h0 g _) (by decide) rfl wn340 dX0_felonsGo_41 ?_
        refine x_rd hW (fun x8 ex8 rx8 => ?_)
        have bx8 : 0 ≤ x8 ∧ x8 ≤ 100 := by rw [ex8]; exact IC.z q3_0
        have J65 : ∀ (t0_65 : Int) (s_65 : xS) (H : Heap) (locs : List Loc) (ls : Array Slot), (xR t0_65) → (xFr (fun k => (7 ≤ k ∧ k < 107) ∨ k = 107 ∨ k = 115 ∨ k = 116 ∨ k = 133 ∨ k = d ∨ k = d + 6 ∨ k = d + 7 ∨ k = d + 8 ∨ k = d + 9) s0 s_65) → (IC s_65) → (s_65 1 1 = s0 1 1) → (s_65 d 7 = s0 d 7) → xW D g h0 s H locs s_65 → lv_has ls 8 [(0, .ref (h0 + 128)), (1, .ref (h0 + d)), (2, .int (xJ a)), (3, .int (xJ b)), (4, .int (xJ i4_3)), (5, .int (xJ x3))] → W p l e { frames := 4, cells := 0, slots := 0, locals := 101 } s m args below meth c H locs 0 0 Q (F0 m 65 ls [.int (xJ t0_65)]) := by
          intro t0_65 s_65 H locs ls rt0_65 hF_65 q65_0 q65_1 q65_2 hW hl
          refine lv_istore (lv' := [(6, .int (xJ t0_65)), (0, .ref (h0 + 128)), (1, .ref (h0 + d)), (2, .int (xJ a)), (3, .int (xJ b)), (4, .int (xJ i4_3)), (5, .int (xJ x3))]) hx hb dX0_felonsGo_65 hl (by decide) rfl (fun ls hl => ?_)
          refine x_iload hx hb hl 0 rfl dX0_felonsGo_67 ?_
          refine x_goi (x_runSN (As := [.int (xJ t0_65)]) hx hb hml hown hT hE hW hl.1 cf_X6_isSpot wq831 wn885 (c_X6_isSpot l D g T h0 s_65 hW.2.1 t0_65 rt0_65) ⟨rfl, rfl, ⟨by decide, by decide⟩, ⟨by decide, by decide⟩⟩ rfl rfl (Nat.le_of_ble_eq_true rfl) dX0_felonsGo_69) hW (fun x9 s10 H locs rx9 hp11 hW => ?_)
          obtain ⟨es10, hp11⟩ := hp11
          subst es10
          have ghp11 := hp11
          refine x_if_ne (tgt := 110) hx hb rx9 dX0_felonsGo_72 (by decide) (fun c12 => ?_) (fun c12 => ?_)
          · skip
            refine x_aload_n hx hb hl 2 rfl dX0_felonsGo_110 rfl ?_
            refine x_getN (j := 3) (v := .ref (h0 + (d + 6))) hx hb hown hT hE hW cls_X2 (Or.inl (by omega)) (so_day0 h0 g hd _) (by decide) rfl wn390 dX0_felonsGo_111 ?_
            refine x_iload hx hb hl 6 rfl dX0_felonsGo_114 ?_
            refine x_iload hx hb hl 0 rfl dX0_felonsGo_116 ?_
            refine x_iast hx hb hE hW (by omega) (fun σ => sa_day6 h0 g hd σ) (by omega) (by decide) rt0_65 dX0_felonsGo_118 (fun H locs s13 es13 hW => ?_)
            have q14 : IC s13 := by rw [es13]; exact IC_o (nsC_d hd (by decide)) q65_0
            have q15 : s13 1 1 = s0 1 1 := (show s13 1 1 = s_65 1 1 from by rw [es13, xU_k _ _ _ (by omega)]).trans q65_1
            have q16 : s13 d 7 = s0 d 7 := (show s13 d 7 = s_65 d 7 from by rw [es13, xU_k _ _ _ (by omega)]).trans q65_2
            have hF17 := hF_65.put es13 (by omega)
            refine x_aload_n hx hb hl 1 rfl dX0_felonsGo_119 rfl ?_
            refine x_get (j := 3) (v := .ref (h0 + 130)) hx hb hown hT hE hW cls_X0 (Or.inl (by decide)) (so_128 h0 g _) (by decide) rfl wq357 dX0_felonsGo_120 ?_
            refine x_getN (j := 2) (v := .ref (h0 + 133)) hx hb hown hT hE hW cls_X7 (Or.inl (by decide)) (so_130 h0 g _) (by decide) rfl wn336 dX0_felonsGo_123 ?_
            refine x_iload hx hb hl 0 rfl dX0_felonsGo_126 ?_
            refine x_iconst hx hb dX0_felonsGo_128 ?_
            refine x_zast hx hb hE hW (by decide) (fun σ => sa_133 h0 g σ) (by omega) (by decide) (by omega) dX0_felonsGo_129 (fun H locs s18 es18 hW => ?_)
            have q19 : IC s18 := by rw [es18]; exact IC_o (by decide) q14
            have q20 : s18 1 1 = s0 1 1 := (show s18 1 1 = s13 1 1 from by rw [es18, xU_k _ _ _ (by omega)]).trans q15
            have q21 : s18 d 7 = s0 d 7 := (show s18 d 7 = s13 d 7 from by rw [es18, xU_k _ _ _ (by omega)]).trans q16
            have hF22 := hF17.put es18 (by omega)
            refine x_aload_n hx hb hl 1 rfl dX0_felonsGo_130 rfl ?_
            refine x_get (j := 3) (v := .ref (h0 + 130)) hx hb hown hT hE hW cls_X0 (Or.inl (by decide)) (so_128 h0 g _) (by decide) rfl wq357 dX0_felonsGo_131 ?_
            refine x_iload hx hb hl 0 rfl dX0_felonsGo_134 ?_
            refine x_goi (x_runVN (As := [.int (xJ t0_65)]) hx hb hml hown hT hE hW hl.1 (Or.inl (by decide)) (so_130 h0 g _) rfl cf_X7_layersAt wq899 wq61 wn897 (c_X7_layersAt l D g T h0 s18 hW.2.1 t0_65 rt0_65 q19) ⟨rfl, rfl, ⟨by decide, by decide⟩, ⟨by decide, by decide⟩⟩ rfl rfl (Nat.le_of_ble_eq_true rfl) dX0_felonsGo_136) hW (fun x23 s24 H locs rx23 hp25 hW => ?_)
            obtain ⟨es24, hp25⟩ := hp25
            subst es24
            have ghp25 := hp25
            refine lv_istore (lv' := [(7, .int (xJ x23)), (6, .int (xJ t0_65)), (0, .ref (h0 + 128)), (1, .ref (h0 + d)), (2, .int (xJ a)), (3, .int (xJ b)), (4, .int (xJ i4_3)), (5, .int (xJ x3))]) hx hb dX0_felonsGo_139 hl (by decide) rfl (fun ls hl => ?_)
            refine x_iload_n hx hb hl 5 rfl dX0_felonsGo_141 rfl ?_
            have J161 : ∀ (i7_161 : Int) (ls : Array Slot), (xR i7_161) → lv_has ls 8 [(0, .ref (h0 + 128)), (1, .ref (h0 + d)), (2, .int (xJ a)), (3, .int (xJ b)), (4, .int (xJ i4_3)), (5, .int (xJ x3)), (6, .int (xJ t0_65)), (7, .int (xJ i7_161))] → W p l e { frames := 4, cells := 0, slots := 0, locals := 101 } s m args below meth c H locs 0 0 Q (F0 m 161 ls []) := by
              intro i7_161 ls ri7_161  hl
              refine x_aload_n hx hb hl 1 rfl dX0_felonsGo_161 rfl ?_
              refine x_getN (j := 4) (v := .ref (h0 + (d + 7))) hx hb hown hT hE hW cls_X2 (Or.inl (by omega)) (so_day0 h0 g hd _) (by decide) rfl wn393 dX0_felonsGo_162 ?_
              refine x_iload hx hb hl 5 rfl dX0_felonsGo_165 ?_
              refine x_aload_n hx hb hl 1 rfl dX0_felonsGo_167 rfl ?_
              refine x_getN (j := 4) (v := .ref (h0 + (d + 7))) hx hb hown hT hE hW cls_X2 (Or.inl (by omega)) (so_day0 h0 g hd _) (by decide) rfl wn393 dX0_felonsGo_168 ?_
              refine x_iload hx hb hl 5 rfl dX0_felonsGo_171 ?_
              refine x_iald hx hb hE hW (Or.inl (by omega)) (sa_day7 h0 g hd _) (by omega) (by decide) dX0_felonsGo_173 ?_
              refine x_rd hW (fun x26 ex26 rx26 => ?_)
              refine x_iload hx hb hl 7 rfl dX0_felonsGo_174 ?_
              refine x_isub hx hb dX0_felonsGo_176 ?_
              refine x_any (fun x27 rx27 => ?_)
              refine x_iconst hx hb dX0_felonsGo_177 ?_
              refine x_mmax hx hb hml hl.1 hown hT wq901 wq594 wq180 wq595 ⟨by decide, Nat.le_of_ble_eq_true rfl, by decide, by decide⟩ rx27 (by decide) dX0_felonsGo_178 ?_
              refine x_nm (fun x28 ex28 => ?_)
              have fx28 : (x28 = x27 ∧ 0 ≤ x27) ∨ (x28 = 0 ∧ x27 ≤ 0) := by rw [ex28]; split <;> omega
              refine x_iast hx hb hE hW (by omega) (fun σ => sa_day7 h0 g hd σ) (by omega) (by decide) (by omega) dX0_felonsGo_181 (fun H locs s29 es29 hW => ?_)
              have q30 : IC s29 := by rw [es29]; exact IC_o (nsC_d hd (by decide)) q19
              have q31 : s29 1 1 = s0 1 1 := (show s29 1 1 = s18 1 1 from by rw [es29, xU_k _ _ _ (by omega)]).trans q20
              have q32 : s29 d 7 = s0 d 7 := (show s29 d 7 = s18 d 7 from by rw [es29, xU_k _ _ _ (by omega)]).trans q21
              have hF33 := hF22.put es29 (by omega)
              refine x_aload_n hx hb hl 0 rfl dX0_felonsGo_182 rfl ?_
              refine x_get (j := 0) (v := .ref (h0 + 3)) hx hb hown hT hE hW cls_X0 (Or.inl (by decide)) (so_128 h0 g _) (by decide) rfl wq351 dX0_felonsGo_183 ?_
              refine x_iload hx hb hl 6 rfl dX0_felonsGo_186 ?_
              refine x_goi (x_runVN (As := [.int (xJ t0_65)]) hx hb hml hown hT hE hW hl.1 (Or.inl (by decide)) (so_3 h0 g _) rfl cf_X6_kindAt wq619 wq10 wn848 (c_X6_kindAt l D g T h0 s29 hW.2.1 t0_65 rt0_65 q30) ⟨rfl, rfl, ⟨by decide, by decide⟩, ⟨by decide, by decide⟩⟩ rfl rfl (Nat.le_of_ble_eq_true rfl) dX0_felonsGo_188) hW (fun x34 s35 H locs rx34 hp36 hW => ?_)
              obtain ⟨es35, hp36⟩ := hp36
              subst es35
              have ghp36 := hp36
              refine x_iconst hx hb dX0_felonsGo_191 ?_
              refine x_icmp_ne (tgt := 203) hx hb rx34 (by decide) dX0_felonsGo_192 (by decide) (fun c37 => ?_) (fun c37 => ?_)
              · skip
                refine x_iinc (lv' := [(4, .int (xJ (i4_3 + 1))), (0, .ref (h0 + 128)), (1, .ref (h0 + d)), (2, .int (xJ a)), (3, .int (xJ b)), (5, .int (xJ x3)), (6, .int (xJ t0_65)), (7, .int (xJ i7_161))]) hx hb hl 4 rfl dX0_felonsGo_203 (by decide) rfl (fun ls hl => ?_)
                refine lv_goto (tgt := 3) hx hb dX0_felonsGo_206 (by decide) ?_
                exact ih3 (i4_3 + 1) s29 H locs ls (by omega) hF33 q30 q31 q32 (by omega) (by omega) hW (lv_sub hl [1, 2, 3, 4, 0] rfl)
              refine x_aload_n hx hb hl 1 rfl dX0_felonsGo_195 rfl ?_
              refine x_getN (j := 6) (v := .ref (h0 + (d + 9))) hx hb hown hT hE hW cls_X2 (Or.inl (by omega)) (so_day0 h0 g hd _) (by decide) rfl wn400 dX0_felonsGo_196 ?_
              refine x_iload hx hb hl 5 rfl dX0_felonsGo_199 ?_
              refine x_iconst hx hb dX0_felonsGo_201 ?_
              refine x_zast hx hb hE hW (by omega) (fun σ => sa_day9 h0 g hd σ) (by omega) (by decide) (by omega) dX0_felonsGo_202 (fun H locs s38 es38 hW => ?_)
              have q39 : IC s38 := by rw [es38]; exact IC_z hd q30 (by omega)
              have q40 : s38 1 1 = s0 1 1 := (show s38 1 1 = s29 1 1 from by rw [es38, xU_k _ _ _ (by omega)]).trans q31
              have q41 : s38 d 7 = s0 d 7 := (show s38 d 7 = s29 d 7 from by rw [es38, xU_k _ _ _ (by omega)]).trans q32
              have hF42 := hF33.put es38 (by omega)
              refine x_iinc (lv' := [(4, .int (xJ (i4_3 + 1))), (0, .ref (h0 + 128)), (1, .ref (h0 + d)), (2, .int (xJ a)), (3, .int (xJ b)), (5, .int (xJ x3)), (6, .int (xJ t0_65)), (7, .int (xJ i7_161))]) hx hb hl 4 rfl dX0_felonsGo_203 (by decide) rfl (fun ls hl => ?_)
              refine lv_goto (tgt := 3) hx hb dX0_felonsGo_206 (by decide) ?_
              exact ih3 (i4_3 + 1) s38 H locs ls (by omega) hF42 q39 q40 q41 (by omega) (by omega) hW (lv_sub hl [1, 2, 3, 4, 0] rfl)
            refine x_if_eq (tgt := 161) hx hb rb dX0_felonsGo_142 (by decide) (fun c43 => ?_) (fun c43 => ?_)
            · skip
              exact J161 x23 ls rx23  (lv_sub hl [2, 3, 4, 5, 6, 7, 1, 0] rfl)
            refine x_aload_n hx hb hl 3 rfl dX0_felonsGo_145 rfl ?_
            refine x_getN (j := 7) (v := .int (xJ (s18 d 7))) hx hb hown hT hE hW cls_X2 (Or.inl (by omega)) (so_day0 h0 g hd _) (by decide) rfl wn402 dX0_felonsGo_146 ?_
            refine x_rd hW (fun x44 ex44 rx44 => ?_)
            have bx44 : 0 ≤ x44 ∧ x44 ≤ 9999 := by rw [ex44]; exact IC.m q19 hd
            have fx44 : x44 = s0 d 7 := ex44.trans q21
            refine x_iconst hx hb dX0_felonsGo_149 ?_
            refine x_irem hx hb rx44 (by decide) (by omega) (by decide) dX0_felonsGo_150 ?_
            have J159 : ∀ (t0_159 : Int) (ls : Array Slot), (xR t0_159) → lv_has ls 8 [(0, .ref (h0 + 128)), (1, .ref (h0 + d)), (2, .int (xJ a)), (3, .int (xJ b)), (4, .int (xJ i4_3)), (5, .int (xJ x3)), (6, .int (xJ t0_65))] → W p l e { frames := 4, cells := 0, slots := 0, locals := 101 } s m args below meth c H locs 0 0 Q (F0 m 159 ls [.int (xJ t0_159)]) := by
              intro t0_159 ls rt0_159  hl
              refine lv_istore (lv' := [(7, .int (xJ t0_159)), (0, .ref (h0 + 128)), (1, .ref (h0 + d)), (2, .int (xJ a)), (3, .int (xJ b)), (4, .int (xJ i4_3)), (5, .int (xJ x3)), (6, .int (xJ t0_65))]) hx hb dX0_felonsGo_159 hl (by decide) rfl (fun ls hl => ?_)
              exact J161 t0_159 ls rt0_159  (lv_sub hl [1, 2, 3, 4, 5, 6, 7, 0] rfl)
            refine x_if_ne (tgt := 158) hx hb (by omega) dX0_felonsGo_151 (by decide) (fun c45 => ?_) (fun c45 => ?_)
            · skip
              refine x_iconst hx hb dX0_felonsGo_158 ?_
              exact J159 0 ls (by decide)  (lv_sub hl [2, 3, 4, 5, 6, 7, 1] rfl)
            refine x_iconst hx hb dX0_felonsGo_154 ?_
            refine lv_goto (tgt := 159) hx hb dX0_felonsGo_155 (by decide) ?_
            exact J159 1 ls (by decide)  (lv_sub hl [2, 3, 4, 5, 6, 7, 1] rfl)
          refine x_aload_n hx hb hl 2 rfl dX0_felonsGo_75 rfl ?_
          refine lv_dup hx hb dX0_felonsGo_76 rfl ?_
          refine x_getN (j := 9) (v := .int (xJ (s_65 d 9))) hx hb hown hT hE hW cls_X2 (Or.inl (by omega)) (so_day0 h0 g hd _) (by decide) rfl wn408 dX0_felonsGo_77 ?_
          refine x_rd hW (fun x46 ex46 rx46 => ?_)
          refine x_iconst hx hb dX0_felonsGo_80 ?_
          refine x_iadd hx hb dX0_felonsGo_81 ?_
          refine x_any (fun x47 rx47 => ?_)
          refine x_putN (j := 9) hx hb hown hT hE hW cls_X2 (by omega) (fun σ => so_day0 h0 g hd σ) (by decide) (st_X2_9 h0 s_65 d x47) (ln_X2_9 h0 _ _) wn408 rfl rfl rfl rx47 dX0_felonsGo_82 (fun H locs s48 es48 hW => ?_)
          have q49 : IC s48 := by rw [es48]; exact IC_d hd q65_0 (by omega)
          have q50 : s48 1 1 = s0 1 1 := (show s48 1 1 = s_65 1 1 from by rw [es48, xU_k _ _ _ (by omega)]).trans q65_1
          have q51 : s48 d 7 = s0 d 7 := (show s48 d 7 = s_65 d 7 from by rw [es48, xU_j _ _ (by decide)]).trans q65_2
          have hF52 := hF_65.put es48 (by omega)
          refine x_aload_n hx hb hl 2 rfl dX0_felonsGo_85 rfl ?_
          refine x_getN (j := 5) (v := .ref (h0 + (d + 8))) hx hb hown hT hE hW cls_X2 (Or.inl (by omega)) (so_day0 h0 g hd _) (by decide) rfl wn396 dX0_felonsGo_86 ?_
          refine x_iload hx hb hl 6 rfl dX0_felonsGo_89 ?_
          refine x_aload_n hx hb hl 2 rfl dX0_felonsGo_91 rfl ?_
          refine x_getN (j := 5) (v := .ref (h0 + (d + 8))) hx hb hown hT hE hW cls_X2 (Or.inl (by omega)) (so_day0 h0 g hd _) (by decide) rfl wn396 dX0_felonsGo_92 ?_
          refine x_iload hx hb hl 6 rfl dX0_felonsGo_95 ?_
          refine x_iald hx hb hE hW (Or.inl (by omega)) (sa_day8 h0 g hd _) (by omega) (by decide) dX0_felonsGo_97 ?_
          refine x_rd hW (fun x53 ex53 rx53 => ?_)
          refine x_iconst hx hb dX0_felonsGo_98 ?_
          refine x_iadd hx hb dX0_felonsGo_99 ?_
          refine x_any (fun x54 rx54 => ?_)
          refine x_sipush hx hb dX0_felonsGo_100 (by decide) ?_
          refine x_mmin hx hb hml hl.1 hown hT wq896 wq569 wq180 wq570 ⟨by decide, Nat.le_of_ble_eq_true rfl, by decide, by decide⟩ rx54 (by decide) dX0_felonsGo_103 ?_
          refine x_nm (fun x55 ex55 => ?_)
          have fx55 : (x55 = x54 ∧ x54 ≤ 999) ∨ (x55 = 999 ∧ 999 ≤ x54) := by rw [ex55]; split <;> omega
          refine x_iast hx hb hE hW (by omega) (fun σ => sa_day8 h0 g hd σ) (by omega) (by decide) (by omega) dX0_felonsGo_106 (fun H locs s56 es56 hW => ?_)
          have q57 : IC s56 := by rw [es56]; exact IC_o (nsC_d hd (by decide)) q49
          have q58 : s56 1 1 = s0 1 1 := (show s56 1 1 = s48 1 1 from by rw [es56, xU_k _ _ _ (by omega)]).trans q50
          have q59 : s56 d 7 = s0 d 7 := (show s56 d 7 = s48 d 7 from by rw [es56, xU_k _ _ _ (by omega)]).trans q51
          have hF60 := hF52.put es56 (by omega)
          refine lv_goto (tgt := 203) hx hb dX0_felonsGo_107 (by decide) ?_
          refine x_iinc (lv' := [(4, .int (xJ (i4_3 + 1))), (6, .int (xJ t0_65)), (0, .ref (h0 + 128)), (1, .ref (h0 + d)), (2, .int (xJ a)), (3, .int (xJ b)), (5, .int (xJ x3))]) hx hb hl 5 rfl dX0_felonsGo_203 (by decide) rfl (fun ls hl => ?_)
          refine lv_goto (tgt := 3) hx hb dX0_felonsGo_206 (by decide) ?_
          exact ih3 (i4_3 + 1) s56 H locs ls (by omega) hF60 q57 q58 q59 (by omega) (by omega) hW (lv_sub hl [2, 3, 4, 5, 0] rfl)
        refine x_if_le (tgt := 64) hx hb rx8 dX0_felonsGo_44 (by decide) (fun c61 => ?_) (fun c61 => ?_)
        · skip
          refine x_iconst hx hb dX0_felonsGo_64 ?_
          exact J65 (-1) s_3 H locs ls (by decide) hF_3 q3_0 q3_1 q3_2 hW (lv_sub hl [1, 2, 3, 4, 5, 0] rfl)
        refine x_aload_n hx hb hl 1 rfl dX0_felonsGo_47 rfl ?_
        refine x_aload_n hx hb hl 2 rfl dX0_felonsGo_48 rfl ?_
        refine x_iload hx hb hl 0 rfl dX0_felonsGo_49 ?_
        refine x_aload_n hx hb hl 1 rfl dX0_felonsGo_51 rfl ?_
        refine x_aload_n hx hb hl 2 rfl dX0_felonsGo_52 rfl ?_
        refine x_iload hx hb hl 0 rfl dX0_felonsGo_53 ?_
        refine x_goi (x_runV (As := [.ref (h0 + d), .int (xJ x3)]) hx hb hml hown hT hE hW hl.1 (Or.inl (by decide)) (so_128 h0 g _) rfl cf_X0_reachOf wq879 wq57 wq877 (c_X0_reachOf l D g T h0 s_3 hW.2.1 d hd x3 rx3 q3_0) ⟨rfl, rfl, ⟨by decide, by decide⟩, ⟨by decide, by decide⟩⟩ rfl rfl (Nat.le_of_ble_eq_true rfl) dX0_felonsGo_55) hW (fun x62 s63 H locs rx62 hp64 hW => ?_)
        obtain ⟨fs63, hp64⟩ := hp64
        have hF65 := hF_3.call fs63 (fun k h => by omega)
        have q66 : s63 1 1 = s0 1 1 := (congrFun (fs63 _ (by omega)) _).trans q3_1
        have q67 : s63 d 7 = s0 d 7 := (congrFun (fs63 _ (by omega)) _).trans q3_2
        have ghp64 := hp64.2
        refine x_goi (x_runV (As := [.ref (h0 + d), .int (xJ x3), .int (xJ x62)]) hx hb hml hown hT hE hW hl.1 (Or.inl (by decide)) (so_128 h0 g _) rfl cf_X0_findShadow wq883 wq58 wq881 (c_X0_findShadow l D g T h0 s63 hW.2.1 d hd x3 rx3 x62 rx62 (by omega) hp64.1.1) ⟨rfl, rfl, ⟨by decide, by decide⟩, ⟨by decide, by decide⟩⟩ rfl rfl (Nat.le_of_ble_eq_true rfl) dX0_felonsGo_58) hW (fun x68 s69 H locs rx68 hp70 hW => ?_)
        obtain ⟨fs69, hp70⟩ := hp70
        have hF71 := hF65.call fs69 (fun k h => by omega)
        have q72 : s69 1 1 = s0 1 1 := (congrFun (fs69 _ (by omega)) _).trans q66
        have ghp70 := hp70.2
        refine lv_goto (tgt := 65) hx hb dX0_felonsGo_61 (by decide) ?_
        exact J65 x68 s69 H locs ls rx68 hF71 hp70.1.1 q72 (hp70.1.2.1.trans q67) hW (lv_sub hl [1, 2, 3, 4, 5, 0] rfl)
      refine lv_goto (tgt := 203) hx hb dX0_felonsGo_34 (by decide) ?_
      refine x_iinc (lv' := [(4, .int (xJ (i4_3 + 1))), (5, .int (xJ x3)), (0, .ref (h0 + 128)), (1, .ref (h0 + d)), (2, .int (xJ a)), (3, .int (xJ b))]) hx hb hl 5 rfl dX0_felonsGo_203 (by decide) rfl (fun ls hl => ?_)
      refine lv_goto (tgt := 3) hx hb dX0_felonsGo_206 (by decide) ?_
      exact ih3 (i4_3 + 1) s_3 H locs ls (by omega) hF_3 q3_0 q3_1 q3_2 (by omega) (by omega) hW (lv_sub hl [2, 3, 4, 5, 0] rfl)
  exact L3 ((a + 1 - 0 : Int).toNat + 1) 0 s0 H locs ls (by decide) hF p0 k1_1 kd_7 (by omega) (Nat.lt_succ_self _) hW (lv_sub hl [1, 2, 3, 4, 0] rfl)
set_option maxHeartbeats 4000000 in
set_option maxRecDepth 100000 in
theorem c_X0_walkOn (l : Launch) (D : va_G) (g : xG) (T : Nat × Nat × Nat) (h0 : Nat) (s0 : xS) (hσ : xRR s0) (d : Nat) (hd : xDay d) (p0 : IC s0) : Met l yX0_walkOn (xws yX0_walkOn cX0_walkOn 2 (some .boolean)) { frames := 4, cells := 0, slots := 0, locals := 99 } (xP [.ref (h0 + 128), .ref (h0 + d)] D g T h0 s0) (xQi D g h0 (fun r τ => xFr (fun k => k = 115 ∨ k = 116 ∨ k = 130 ∨ k = 131 ∨ k = 132 ∨ k = 133 ∨ k = d ∨ k = d + 1 ∨ k = d + 5) s0 τ ∧ (((IC τ) ∧ True) ∧ (r = 0 ∨ r = 1)))) 0 0 (xA h0) := by
  refine x_met hσ (by decide) (Nat.le_of_ble_eq_true rfl) ?_
  intro p e s m args below meth c hx hb hr hml hown hT hlk hnm hE hW ls hl
  have hl : lv_has ls 2 [(0, .ref (h0 + 128)), (1, .ref (h0 + d))] := hl
  obtain ⟨Q, eQ⟩ : ∃ Q, Q = MQ below (xQi D g h0 (fun r τ => xFr (fun k => k = 115 ∨ k = 116 ∨ k = 130 ∨ k = 131 ∨ k = 132 ∨ k = 133 ∨ k = d ∨ k = d + 1 ∨ k = d + 5) s0 τ ∧ (((IC τ) ∧ True) ∧ (r = 0 ∨ r = 1)))) args s 0 0 (xA h0) := ⟨_, rfl⟩
  rw [← eQ]
  generalize hHe : ([] : List Loc) = locs at hW ⊢
  obtain ⟨H, eH⟩ : ∃ H, H = s.heap := ⟨_, rfl⟩
  rw [← eH] at hW ⊢
  have hF : xFr (fun k => k = 115 ∨ k = 116 ∨ k = 130 ∨ k = 131 ∨ k = 132 ∨ k = 133 ∨ k = d ∨ k = d + 1 ∨ k = d + 5) s0 s0 := xFr.rf
  have hbd : (136 ≤ d ∧ d < 209) ∧ (d ≤ 146 ∨ 158 ≤ d) := by unfold xDay at hd; omega
  have k1_1 : s0 1 1 = s0 1 1 := rfl
  refine x_aload_n hx hb hl 1 rfl dX0_walkOn_0 rfl ?_
  refine x_getN (j := 7) (v := .int (xJ (s0 d 7))) hx hb hown hT hE hW cls_X2 (Or.inl (by omega)) (so_day0 h0 g hd _) (by decide) rfl wn402 dX0_walkOn_1 ?_
  refine x_rd hW (fun x1 ex1 rx1 => ?_)
  have bx1 : 0 ≤ x1 ∧ x1 ≤ 9999 := by rw [ex1]; exact IC.m p0 hd
  have q2 : s0 d 7 = x1 := ex1.symm
  refine x_sipush hx hb dX0_walkOn_4 (by decide) ?_
  refine x_icmp_lt (tgt := 12) hx hb rx1 (by decide) dX0_walkOn_7 (by decide) (fun c3 => ?_) (fun c3 => ?_)
  · skip
    refine x_aload_n hx hb hl 0 rfl dX0_walkOn_12 rfl ?_
    refine x_aload_n hx hb hl 1 rfl dX0_walkOn_13 rfl ?_
    refine x_gov (x_runV (As := [.ref (h0 + d)]) hx hb hml hown hT hE hW hl.1 (Or.inl (by decide)) (so_128 h0 g _) rfl cf_X0_judgesStep wq769 wq36 wq767 (c_X0_judgesStep l D g T h0 s0 hW.2.1 d hd p0) ⟨rfl, rfl, ⟨by decide, by decide⟩, ⟨by decide, by decide⟩⟩ rfl rfl (Nat.le_of_ble_eq_true rfl) dX0_walkOn_14) hW (fun s5 H locs hp6 hW => ?_)
    obtain ⟨fs5, hp6⟩ := hp6
    have hF7 := hF.call fs5 (fun k h => by omega)
    have q8 : s5 1 1 = s0 1 1 := (congrFun (fs5 _ (by omega)) _).trans k1_1
    have q9 : s5 d 7 = x1 := (congrFun (fs5 _ (by omega)) _).trans q2
    have ghp6 := hp6.2
    refine x_aload_n hx hb hl 0 rfl dX0_walkOn_17 rfl ?_
    refine x_aload_n hx hb hl 1 rfl dX0_walkOn_18 rfl ?_
    refine x_iconst hx hb dX0_walkOn_19 ?_
    refine x_iconst hx hb dX0_walkOn_20 ?_
    refine x_gov (x_runV (As := [.ref (h0 + d), .int (xJ 1), .int (xJ 0)]) hx hb hml hown hT hE hW hl.1 (Or.inl (by decide)) (so_128 h0 g _) rfl cf_X0_cast wq824 wq46 wq822 (c_X0_cast l D g T h0 s5 hW.2.1 d hd 1 (by decide) 0 (by decide) hp6.1.1) ⟨rfl, rfl, ⟨by decide, by decide⟩, ⟨by decide, by decide⟩⟩ rfl rfl (Nat.le_of_ble_eq_true rfl) dX0_walkOn_21) hW (fun s11 H locs hp12 hW => ?_)
    obtain ⟨fs11, hp12⟩ := hp12
    have hF13 := hF7.call fs11 (fun k h => by omega)
    have q14 : s11 1 1 = s0 1 1 := (congrFun (fs11 _ (by omega)) _).trans q8
    have q15 : s11 d 7 = x1 := (congrFun (fs11 _ (by omega)) _).trans q9
    have ghp12 := hp12.2
    refine x_aload_n hx hb hl 1 rfl dX0_walkOn_24 rfl ?_
    refine lv_dup hx hb dX0_walkOn_25 rfl ?_
    refine x_getN (j := 7) (v := .int (xJ (s11 d 7))) hx hb hown hT hE hW cls_X2 (Or.inl (by omega)) (so_day0 h0 g hd _) (by decide) rfl wn402 dX0_walkOn_26 ?_
    refine x_rd hW (fun x16 ex16 rx16 => ?_)
    have bx16 : 0 ≤ x16 ∧ x16 ≤ 9999 := by rw [ex16]; exact IC.m hp12.1.1 hd
    have fx16 : x16 = x1 := ex16.trans q15
    refine x_iconst hx hb dX0_walkOn_29 ?_
    refine x_iadd hx hb dX0_walkOn_30 ?_
    refine x_putN (j := 7) hx hb hown hT hE hW cls_X2 (by omega) (fun σ => so_day0 h0 g hd σ) (by decide) (st_X2_7 h0 s11 d (x16 + 1)) (ln_X2_7 h0 _ _) wn402 rfl rfl rfl (by omega) dX0_walkOn_31 (fun H locs s17 es17 hW => ?_)
    have q18 : s17 1 1 = s0 1 1 := (show s17 1 1 = s11 1 1 from by rw [es17, xU_k _ _ _ (by omega)]).trans q14
    have q19 : s17 d 7 = (x16 + 1) := by rw [es17, xU_s]
    have q20 : IC s17 := by rw [es17]; exact IC_d hd hp12.1.1 (by omega)
    have hF21 := hF13.put es17 (by omega)
    refine x_iconst hx hb dX0_walkOn_34 ?_
    rw [eQ]
    exact x_zret hx hb hr hlk hW (by omega) ⟨hF21, ⟨q20, trivial⟩, by omega⟩ dX0_walkOn_35
  refine x_iconst hx hb dX0_walkOn_10 ?_
  rw [eQ]
  exact x_zret hx hb hr hlk hW (by omega) ⟨hF, ⟨p0, trivial⟩, by omega⟩ dX0_walkOn_11
set_option maxHeartbeats 4000000 in
set_option maxRecDepth 100000 in
theorem c_X0_goOn (l : Launch) (D : va_G) (g : xG) (T : Nat × Nat × Nat) (h0 : Nat) (s0 : xS) (hσ : xRR s0) (d : Nat) (hd : xDay d) (n : Int) (rn : xR n) (a : Int) (ra : xR a) (p0 : IC s0) : Met l yX0_goOn (xws yX0_goOn cX0_goOn 8 (some .int)) { frames := 5, cells := 0, slots := 0, locals := 128 } (xP [.ref (h0 + 128), .ref (h0 + d), .int (xJ n), .int (xJ a)] D g T h0 s0) (xQi D g h0 (fun r τ => xFr (fun k => (7 ≤ k ∧ k < 107) ∨ k = 107 ∨ k = 115 ∨ k = 116 ∨ k = 130 ∨ k = 131 ∨ k = 132 ∨ k = 133 ∨ k = 134 ∨ k = 135 ∨ k = d ∨ k = d + 1 ∨ k = d + 5 ∨ k = d + 6 ∨ k = d + 7 ∨ k = d + 8 ∨ k = d + 9) s0 τ ∧ (((IC τ) ∧ True) ∧ (True)))) 0 0 (xA h0) := by
  refine x_met hσ (by decide) (Nat.le_of_ble_eq_true rfl) ?_
  intro p e s m args below meth c hx hb hr hml hown hT hlk hnm hE hW ls hl
  have hl : lv_has ls 8 [(0, .ref (h0 + 128)), (1, .ref (h0 + d)), (2, .int (xJ n)), (3, .int (xJ a))] := hl
  obtain ⟨Q, eQ⟩ : ∃ Q, Q = MQ below (xQi D g h0 (fun r τ => xFr (fun k => (7 ≤ k ∧ k < 107) ∨ k = 107 ∨ k = 115 ∨ k = 116 ∨ k = 130 ∨ k = 131 ∨ k = 132 ∨ k = 133 ∨ k = 134 ∨ k = 135 ∨ k = d ∨ k = d + 1 ∨ k = d + 5 ∨ k = d + 6 ∨ k = d + 7 ∨ k = d + 8 ∨ k = d + 9) s0 τ ∧ (((IC τ) ∧ True) ∧ (True)))) args s 0 0 (xA h0) := ⟨_, rfl⟩
  rw [← eQ]
  generalize hHe : ([] : List Loc) = locs at hW ⊢
  obtain ⟨H, eH⟩ : ∃ H, H = s.heap := ⟨_, rfl⟩
  rw [← eH] at hW ⊢
  have hF : xFr (fun k => (7 ≤ k ∧ k < 107) ∨ k = 107 ∨ k = 115 ∨ k = 116 ∨ k = 130 ∨ k = 131 ∨ k = 132 ∨ k = 133 ∨ k = 134 ∨ k = 135 ∨ k = d ∨ k = d + 1 ∨ k = d + 5 ∨ k = d + 6 ∨ k = d + 7 ∨ k = d + 8 ∨ k = d + 9) s0 s0 := xFr.rf
  have hbd : (136 ≤ d ∧ d < 209) ∧ (d ≤ 146 ∨ 158 ≤ d) := by unfold xDay at hd; omega
  have k1_1 : s0 1 1 = s0 1 1 := rfl
  refine x_aload_n hx hb hl 1 rfl dX0_goOn_0 rfl ?_
  refine x_goi (x_runVN (As := []) hx hb hml hown hT hE hW hl.1 (Or.inl (by omega)) (so_day0 h0 g hd _) rfl cf_X2_owedByAll wq765 wq35 wn763 (c_X2_owedByAll l D g T h0 s0 hW.2.1 d hd p0) ⟨rfl, rfl, ⟨by decide, by decide⟩, ⟨by decide, by decide⟩⟩ rfl rfl (Nat.le_of_ble_eq_true rfl) dX0_goOn_1) hW (fun x1 s2 H locs rx1 hp3 hW => ?_)
  obtain ⟨es2, hp3⟩ := hp3
  subst es2
  have ghp3 := hp3
  refine lv_istore (lv' := [(4, .int (xJ x1)), (0, .ref (h0 + 128)), (1, .ref (h0 + d)), (2, .int (xJ n)), (3, .int (xJ a))]) hx hb dX0_goOn_4 hl (by decide) rfl (fun ls hl => ?_)
  refine x_iconst hx hb dX0_goOn_6 ?_
  refine lv_istore (lv' := [(5, .int (xJ 0)), (4, .int (xJ x1)), (0, .ref (h0 + 128)), (1, .ref (h0 + d)), (2, .int (xJ n)), (3, .int (xJ a))]) hx hb dX0_goOn_7 hl (by decide) rfl (fun ls hl => ?_)
  have L9 : ∀ (fu : Nat) (i5_9 : Int) (s_9 : xS) (H : Heap) (locs : List Loc) (ls : Array Slot), (xR i5_9) → (xFr (fun k => (7 ≤ k ∧ k < 107) ∨ k = 107 ∨ k = 115 ∨ k = 116 ∨ k = 130 ∨ k = 131 ∨ k = 132 ∨ k = 133 ∨ k = 134 ∨ k = 135 ∨ k = d ∨ k = d + 1 ∨ k = d + 5 ∨ k = d + 6 ∨ k = d + 7 ∨ k = d + 8 ∨ k = d + 9) s0 s_9) → (IC s_9) → (s_9 1 1 = s0 1 1) → (0 ≤ i5_9) → (n + 1 - i5_9).toNat < fu → xW D g h0 s H locs s_9 → lv_has ls 8 [(0, .ref (h0 + 128)), (1, .ref (h0 + d)), (2, .int (xJ n)), (3, .int (xJ a)), (4, .int (xJ x1)), (5, .int (xJ i5_9))] → W p l e { frames := 5, cells := 0, slots := 0, locals := 128 } s m args below meth c H locs 0 0 Q (F0 m 9 ls []) := by
    intro fu
    induction fu with
    | zero => intro i5_9 s_9 H locs ls ri5_9 hF_9 q9_0 q9_1 v9_0 hm; exact absurd hm (Nat.not_lt_zero _)
    | succ fu ih9 =>
      intro i5_9 s_9 H locs ls ri5_9 hF_9 q9_0 q9_1 v9_0 hm hW hl
      refine x_iload hx hb hl 5 rfl dX0_goOn_9 ?_
      refine x_iload_n hx hb hl 2 rfl dX0_goOn_11 rfl ?_
      refine x_icmp_ge (tgt := 140) hx hb ri5_9 rn dX0_goOn_12 (by decide) (fun c4 => ?_) (fun c4 => ?_)
      · skip
        refine x_iload hx hb hl 4 rfl dX0_goOn_140 ?_
        refine x_aload_n hx hb hl 1 rfl dX0_goOn_142 rfl ?_
        refine x_goi (x_runVN (As := []) hx hb hml hown hT hE hW hl.1 (Or.inl (by omega)) (so_day0 h0 g hd _) rfl cf_X2_owedByAll wq765 wq35 wn763 (c_X2_owedByAll l D g T h0 s_9 hW.2.1 d hd q9_0) ⟨rfl, rfl, ⟨by decide, by decide⟩, ⟨by decide, by decide⟩⟩ rfl rfl (Nat.le_of_ble_eq_true rfl) dX0_goOn_143) hW (fun x5 s6 H locs rx5 hp7 hW => ?_)
        obtain ⟨es6, hp7⟩ := hp7
        subst es6
        have ghp7 := hp7
        refine x_isub hx hb dX0_goOn_146 ?_
        refine x_any (fun x8 rx8 => ?_)
        rw [eQ]
        exact x_iret hx hb hr hlk hW rx8 ⟨hF_9, ⟨q9_0, trivial⟩, trivial⟩ dX0_goOn_147
      refine x_aload_n hx hb hl 1 rfl dX0_goOn_15 rfl ?_
      refine x_getN (j := 7) (v := .int (xJ (s_9 d 7))) hx hb hown hT hE hW cls_X2 (Or.inl (by omega)) (so_day0 h0 g hd _) (by decide) rfl wn402 dX0_goOn_16 ?_
      refine x_rd hW (fun x9 ex9 rx9 => ?_)
      have bx9 : 0 ≤ x9 ∧ x9 ≤ 9999 := by rw [ex9]; exact IC.m q9_0 hd
      have q10 : s_9 d 7 = x9 := ex9.symm
      refine x_sipush hx hb dX0_goOn_19 (by decide) ?_
      refine x_icmp_ge (tgt := 140) hx hb rx9 (by decide) dX0_goOn_22 (by decide) (fun c11 => ?_) (fun c11 => ?_)
      · skip
        refine x_iload hx hb hl 4 rfl dX0_goOn_140 ?_
        refine x_aload_n hx hb hl 1 rfl dX0_goOn_142 rfl ?_
        refine x_goi (x_runVN (As := []) hx hb hml hown hT hE hW hl.1 (Or.inl (by omega)) (so_day0 h0 g hd _) rfl cf_X2_owedByAll wq765 wq35 wn763 (c_X2_owedByAll l D g T h0 s_9 hW.2.1 d hd q9_0) ⟨rfl, rfl, ⟨by decide, by decide⟩, ⟨by decide, by decide⟩⟩ rfl rfl (Nat.le_of_ble_eq_true rfl) dX0_goOn_143) hW (fun x12 s13 H locs rx12 hp14 hW => ?_)
        obtain ⟨es13, hp14⟩ := hp14
        subst es13
        have ghp14 := hp14
        refine x_isub hx hb dX0_goOn_146 ?_
        refine x_any (fun x15 rx15 => ?_)
        rw [eQ]
        exact x_iret hx hb hr hlk hW rx15 ⟨hF_9, ⟨q9_0, trivial⟩, trivial⟩ dX0_goOn_147
      refine x_aload_n hx hb hl 0 rfl dX0_goOn_25 rfl ?_
      refine x_aload_n hx hb hl 1 rfl dX0_goOn_26 rfl ?_
      refine x_gov (x_runV (As := [.ref (h0 + d)]) hx hb hml hown hT hE hW hl.1 (Or.inl (by decide)) (so_128 h0 g _) rfl cf_X0_judgesStep wq769 wq36 wq767 (c_X0_judgesStep l D g T h0 s_9 hW.2.1 d hd q9_0) ⟨rfl, rfl, ⟨by decide, by decide⟩, ⟨by decide, by decide⟩⟩ rfl rfl (Nat.le_of_ble_eq_true rfl) dX0_goOn_27) hW (fun s17 H locs hp18 hW => ?_)
      obtain ⟨fs17, hp18⟩ := hp18
      have hF19 := hF_9.call fs17 (fun k h => by omega)
      have q20 : s17 1 1 = s0 1 1 := (congrFun (fs17 _ (by omega)) _).trans q9_1
      have q21 : s17 d 7 = x9 := (congrFun (fs17 _ (by omega)) _).trans q10
      have ghp18 := hp18.2
      refine x_aload_n hx hb hl 0 rfl dX0_goOn_30 rfl ?_
      refine x_get (j := 1) (v := .ref (h0 + 109)) hx hb hown hT hE hW cls_X0 (Or.inl (by decide)) (so_128 h0 g _) (by decide) rfl wq354 dX0_goOn_31 ?_
      refine x_aload_n hx hb hl 1 rfl dX0_goOn_34 rfl ?_
      refine x_getN (j := 7) (v := .int (xJ (s17 d 7))) hx hb hown hT hE hW cls_X2 (Or.inl (by omega)) (so_day0 h0 g hd _) (by decide) rfl wn402 dX0_goOn_35 ?_
      refine x_rd hW (fun x22 ex22 rx22 => ?_)
      have bx22 : 0 ≤ x22 ∧ x22 ≤ 9999 := by rw [ex22]; exact IC.m hp18.1.1 hd
      have fx22 : x22 = x9 := ex22.trans q21
      refine x_gov (x_runVN (As := [.int (xJ x22)]) hx hb hml hown hT hE hW hl.1 (Or.inl (by decide)) (so_109 h0 g _) rfl cf_X4_tellMinute wq793 wq40 wn791 (c_X4_tellMinute l D g T h0 s17 hW.2.1 x22 rx22 hp18.1.1) ⟨rfl, rfl, ⟨by decide, by decide⟩, ⟨by decide, by decide⟩⟩ rfl rfl (Nat.le_of_ble_eq_true rfl) dX0_goOn_38) hW (fun s24 H locs hp25 hW => ?_)
      obtain ⟨fs24, hp25⟩ := hp25
      have hF26 := hF19.call fs24 (fun k h => by omega)
      have q27 : s24 1 1 = s0 1 1 := (congrFun (fs24 _ (by omega)) _).trans q20
      have q28 : s24 d 7 = x9 := (congrFun (fs24 _ (by omega)) _).trans q21
      have ghp25 := hp25.2
      refine x_aload_n hx hb hl 1 rfl dX0_goOn_41 rfl ?_
      refine x_goi (x_runVN (As := []) hx hb hml hown hT hE hW hl.1 (Or.inl (by omega)) (so_day0 h0 g hd _) rfl cf_X2_draw wq797 wq41 wn795 (c_X2_draw l D g T h0 s24 hW.2.1 d hd hp25.1.1) ⟨rfl, rfl, ⟨by decide, by decide⟩, ⟨by decide, by decide⟩⟩ rfl rfl (Nat.le_of_ble_eq_true rfl) dX0_goOn_42) hW (fun x29 s30 H locs rx29 hp31 hW => ?_)
      obtain ⟨fs30, hp31⟩ := hp31
      have hF32 := hF26.call fs30 (fun k h => by omega)
      have q33 : s30 1 1 = s0 1 1 := (congrFun (fs30 _ (by omega)) _).trans q27
      have ghp31 := hp31.2
      refine x_aload_n hx hb hl 0 rfl dX0_goOn_45 rfl ?_
      refine x_get (j := 1) (v := .ref (h0 + 109)) hx hb hown hT hE hW cls_X0 (Or.inl (by decide)) (so_128 h0 g _) (by decide) rfl wq354 dX0_goOn_46 ?_
      refine x_bipush hx hb dX0_goOn_49 (by decide) ?_
      refine x_bipush hx hb dX0_goOn_51 (by decide) ?_
      refine x_goi (x_runVN (As := [.int (xJ 99), .int (xJ 10)]) hx hb hml hown hT hE hW hl.1 (Or.inl (by decide)) (so_109 h0 g _) rfl cf_X4_worthOf wq802 wq42 wn800 (c_X4_worthOf l D g T h0 s30 hW.2.1 99 (by decide) 10 (by decide) hp31.1.1) ⟨rfl, rfl, ⟨by decide, by decide⟩, ⟨by decide, by decide⟩⟩ rfl rfl (Nat.le_of_ble_eq_true rfl) dX0_goOn_53) hW (fun x34 s35 H locs rx34 hp36 hW => ?_)
      obtain ⟨fs35, hp36⟩ := hp36
      have hF37 := hF32.call fs35 (fun k h => by omega)
      have q38 : s35 1 1 = s0 1 1 := (congrFun (fs35 _ (by omega)) _).trans q33
      have q39 : s35 d 7 = x9 := (congrFun (fs35 _ (by omega)) _).trans (hp31.1.2.1.trans q28)
      have ghp36 := hp36.2
      have J64 : ∀ (t0_64 : Int) (ls : Array Slot), (xR t0_64) → lv_has ls 8 [(0, .ref (h0 + 128)), (1, .ref (h0 + d)), (2, .int (xJ n)), (3, .int (xJ a)), (4, .int (xJ x1)), (5, .int (xJ i5_9))] → W p l e { frames := 5, cells := 0, slots := 0, locals := 128 } s m args below meth c H locs 0 0 Q (F0 m 64 ls [.int (xJ t0_64)]) := by
        intro t0_64 ls rt0_64  hl
        refine lv_istore (lv' := [(6, .int (xJ t0_64)), (0, .ref (h0 + 128)), (1, .ref (h0 + d)), (2, .int (xJ n)), (3, .int (xJ a)), (4, .int (xJ x1)), (5, .int (xJ i5_9))]) hx hb dX0_goOn_64 hl (by decide) rfl (fun ls hl => ?_)
        refine x_iload hx hb hl 0 rfl dX0_goOn_66 ?_
        have J81 : ∀ (s_81 : xS) (H : Heap) (locs : List Loc) (ls : Array Slot), (xFr (fun k => (7 ≤ k ∧ k < 107) ∨ k = 107 ∨ k = 115 ∨ k = 116 ∨ k = 130 ∨ k = 131 ∨ k = 132 ∨ k = 133 ∨ k = 134 ∨ k = 135 ∨ k = d ∨ k = d + 1 ∨ k = d + 5 ∨ k = d + 6 ∨ k = d + 7 ∨ k = d + 8 ∨ k = d + 9) s0 s_81) → (s_81 1 1 = s0 1 1) → (s_81 d 7 = x9) → (IC s_81) → xW D g h0 s H locs s_81 → lv_has ls 8 [(0, .ref (h0 + 128)), (1, .ref (h0 + d)), (2, .int (xJ n)), (3, .int (xJ a)), (4, .int (xJ x1)), (5, .int (xJ i5_9)), (6, .int (xJ t0_64))] → W p l e { frames := 5, cells := 0, slots := 0, locals := 128 } s m args below meth c H locs 0 0 Q (F0 m 81 ls []) := by
          intro s_81 H locs ls hF_81 q81_0 q81_1 q81_2 hW hl
          refine x_aload_n hx hb hl 0 rfl dX0_goOn_81 rfl ?_
          refine x_get (j := 1) (v := .ref (h0 + 109)) hx hb hown hT hE hW cls_X0 (Or.inl (by decide)) (so_128 h0 g _) (by decide) rfl wq354 dX0_goOn_82 ?_
          refine x_aload_n hx hb hl 1 rfl dX0_goOn_85 rfl ?_
          refine x_getN (j := 7) (v := .int (xJ (s_81 d 7))) hx hb hown hT hE hW cls_X2 (Or.inl (by omega)) (so_day0 h0 g hd _) (by decide) rfl wn402 dX0_goOn_86 ?_
          refine x_rd hW (fun x40 ex40 rx40 => ?_)
          have bx40 : 0 ≤ x40 ∧ x40 ≤ 9999 := by rw [ex40]; exact IC.m q81_2 hd
          have fx40 : x40 = x9 := ex40.trans q81_1
          refine x_goi (x_runVN (As := [.int (xJ x40)]) hx hb hml hown hT hE hW hl.1 (Or.inl (by decide)) (so_109 h0 g _) rfl cf_X4_isNight wq819 wq45 wn817 (c_X4_isNight l D g T h0 s_81 hW.2.1 x40 rx40 q81_2) ⟨rfl, rfl, ⟨by decide, by decide⟩, ⟨by decide, by decide⟩⟩ rfl rfl (Nat.le_of_ble_eq_true rfl) dX0_goOn_89) hW (fun x41 s42 H locs rx41 hp43 hW => ?_)
          obtain ⟨fs42, hp43⟩ := hp43
          have hF44 := hF_81.call fs42 (fun k h => by omega)
          have q45 : s42 1 1 = s0 1 1 := (congrFun (fs42 _ (by omega)) _).trans q81_0
          have q46 : s42 d 7 = x9 := (congrFun (fs42 _ (by omega)) _).trans q81_1
          have ghp43 := hp43.2
          refine lv_istore (lv' := [(7, .int (xJ x41)), (0, .ref (h0 + 128)), (1, .ref (h0 + d)), (2, .int (xJ n)), (3, .int (xJ a)), (4, .int (xJ x1)), (5, .int (xJ i5_9)), (6, .int (xJ t0_64))]) hx hb dX0_goOn_92 hl (by decide) rfl (fun ls hl => ?_)
          refine x_aload_n hx hb hl 1 rfl dX0_goOn_94 rfl ?_
          refine x_aload_n hx hb hl 2 rfl dX0_goOn_95 rfl ?_
          refine x_iload hx hb hl 7 rfl dX0_goOn_96 ?_
          have J106 : ∀ (t0_106 : Int) (ls : Array Slot), (xR t0_106) → lv_has ls 8 [(0, .ref (h0 + 128)), (1, .ref (h0 + d)), (2, .int (xJ n)), (3, .int (xJ a)), (4, .int (xJ x1)), (5, .int (xJ i5_9)), (7, .int (xJ x41))] → W p l e { frames := 5, cells := 0, slots := 0, locals := 128 } s m args below meth c H locs 0 0 Q (F0 m 106 ls [.int (xJ t0_106), .ref (h0 + d), .ref (h0 + 128)]) := by
            intro t0_106 ls rt0_106  hl
            refine x_iload hx hb hl 6 rfl dX0_goOn_106 ?_
            refine x_gov (x_runV (As := [.ref (h0 + d), .int (xJ t0_106), .int (xJ x41)]) hx hb hml hown hT hE hW hl.1 (Or.inl (by decide)) (so_128 h0 g _) rfl cf_X0_cast wq824 wq46 wq822 (c_X0_cast l D g T h0 s42 hW.2.1 d hd t0_106 rt0_106 x41 rx41 hp43.1.1) ⟨rfl, rfl, ⟨by decide, by decide⟩, ⟨by decide, by decide⟩⟩ rfl rfl (Nat.le_of_ble_eq_true rfl) dX0_goOn_108) hW (fun s48 H locs hp49 hW => ?_)
            obtain ⟨fs48, hp49⟩ := hp49
            have hF50 := hF44.call fs48 (fun k h => by omega)
            have q51 : s48 1 1 = s0 1 1 := (congrFun (fs48 _ (by omega)) _).trans q45
            have q52 : s48 d 7 = x9 := (congrFun (fs48 _ (by omega)) _).trans q46
            have ghp49 := hp49.2
            refine x_aload_n hx hb hl 0 rfl dX0_goOn_111 rfl ?_
            refine x_aload_n hx hb hl 1 rfl dX0_goOn_112 rfl ?_
            refine x_aload_n hx hb hl 0 rfl dX0_goOn_113 rfl ?_
            refine x_aload_n hx hb hl 1 rfl dX0_goOn_114 rfl ?_
            refine x_iload_n hx hb hl 3 rfl dX0_goOn_115 rfl ?_
            refine x_goi (x_runV (As := [.ref (h0 + d), .int (xJ a)]) hx hb hml hown hT hE hW hl.1 (Or.inl (by decide)) (so_128 h0 g _) rfl cf_X0_lineUp wq854 wq51 wq852 (c_X0_lineUp l D g T h0 s48 hW.2.1 d hd a ra hp49.1.1) ⟨rfl, rfl, ⟨by decide, by decide⟩, ⟨by decide, by decide⟩⟩ rfl rfl (Nat.le_of_ble_eq_true rfl) dX0_goOn_116) hW (fun x53 s54 H locs rx53 hp55 hW => ?_)
            obtain ⟨fs54, hp55⟩ := hp55
            have hF56 := hF50.call fs54 (fun k h => by omega)
            have q57 : s54 1 1 = s0 1 1 := (congrFun (fs54 _ (by omega)) _).trans q51
            have q58 : s54 d 7 = x9 := (congrFun (fs54 _ (by omega)) _).trans q52
            have ghp55 := hp55.2
            refine x_iload hx hb hl 6 rfl dX0_goOn_119 ?_
            refine x_gov (x_runV (As := [.ref (h0 + d), .int (xJ x53), .int (xJ x41)]) hx hb hml hown hT hE hW hl.1 (Or.inl (by decide)) (so_128 h0 g _) rfl cf_X0_felonsGo wq875 wq56 wq873 (c_X0_felonsGo l D g T h0 s54 hW.2.1 d hd x53 rx53 x41 rx41 hp55.1.1) ⟨rfl, rfl, ⟨by decide, by decide⟩, ⟨by decide, by decide⟩⟩ rfl rfl (Nat.le_of_ble_eq_true rfl) dX0_goOn_121) hW (fun s60 H locs hp61 hW => ?_)
            obtain ⟨fs60, hp61⟩ := hp61
            have hF62 := hF56.call fs60 (fun k h => by omega)
            have q63 : s60 1 1 = s0 1 1 := (congrFun (fs60 _ (by omega)) _).trans q57
            have ghp61 := hp61.2
            refine x_aload_n hx hb hl 1 rfl dX0_goOn_124 rfl ?_
            refine lv_dup hx hb dX0_goOn_125 rfl ?_
            refine x_getN (j := 7) (v := .int (xJ (s60 d 7))) hx hb hown hT hE hW cls_X2 (Or.inl (by omega)) (so_day0 h0 g hd _) (by decide) rfl wn402 dX0_goOn_126 ?_
            refine x_rd hW (fun x64 ex64 rx64 => ?_)
            have bx64 : 0 ≤ x64 ∧ x64 ≤ 9999 := by rw [ex64]; exact IC.m hp61.1.1 hd
            have fx64 : x64 = x9 := ex64.trans (hp61.1.2.1.trans q58)
            refine x_iconst hx hb dX0_goOn_129 ?_
            refine x_iadd hx hb dX0_goOn_130 ?_
            refine x_putN (j := 7) hx hb hown hT hE hW cls_X2 (by omega) (fun σ => so_day0 h0 g hd σ) (by decide) (st_X2_7 h0 s60 d (x64 + 1)) (ln_X2_7 h0 _ _) wn402 rfl rfl rfl (by omega) dX0_goOn_131 (fun H locs s65 es65 hW => ?_)
            have q66 : s65 1 1 = s0 1 1 := (show s65 1 1 = s60 1 1 from by rw [es65, xU_k _ _ _ (by omega)]).trans q63
            have q67 : IC s65 := by rw [es65]; exact IC_d hd hp61.1.1 (by omega)
            have q68 : s65 d 7 = (x64 + 1) := by rw [es65, xU_s]
            have hF69 := hF62.put es65 (by omega)
            refine x_iinc (lv' := [(5, .int (xJ (i5_9 + 1))), (0, .ref (h0 + 128)), (1, .ref (h0 + d)), (2, .int (xJ n)), (3, .int (xJ a)), (4, .int (xJ x1)), (7, .int (xJ x41))]) hx hb hl 5 rfl dX0_goOn_134 (by decide) rfl (fun ls hl => ?_)
            refine lv_goto (tgt := 9) hx hb dX0_goOn_137 (by decide) ?_
            exact ih9 (i5_9 + 1) s65 H locs ls (by omega) hF69 q67 q66 (by omega) (by omega) hW (lv_sub hl [1, 2, 3, 4, 5, 0] rfl)
          refine x_if_ne (tgt := 105) hx hb rt0_64 dX0_goOn_98 (by decide) (fun c70 => ?_) (fun c70 => ?_)
          · skip
            refine x_iconst hx hb dX0_goOn_105 ?_
            exact J106 0 ls (by decide)  (lv_sub hl [1, 2, 3, 4, 5, 6, 0] rfl)
          refine x_iconst hx hb dX0_goOn_101 ?_
          refine lv_goto (tgt := 106) hx hb dX0_goOn_102 (by decide) ?_
          exact J106 1 ls (by decide)  (lv_sub hl [1, 2, 3, 4, 5, 6, 0] rfl)
        refine x_if_eq (tgt := 81) hx hb rt0_64 dX0_goOn_68 (by decide) (fun c71 => ?_) (fun c71 => ?_)
        · skip
          exact J81 s35 H locs ls hF37 q38 q39 hp36.1.1 hW (lv_sub hl [1, 2, 3, 4, 5, 6, 0] rfl)
        refine x_aload_n hx hb hl 2 rfl dX0_goOn_71 rfl ?_
        refine lv_dup hx hb dX0_goOn_72 rfl ?_
        refine x_getN (j := 10) (v := .int (xJ (s35 d 10))) hx hb hown hT hE hW cls_X2 (Or.inl (by omega)) (so_day0 h0 g hd _) (by decide) rfl wn410 dX0_goOn_73 ?_
        refine x_rd hW (fun x72 ex72 rx72 => ?_)
        refine x_iconst hx hb dX0_goOn_76 ?_
        refine x_iadd hx hb dX0_goOn_77 ?_
        refine x_any (fun x73 rx73 => ?_)
        refine x_putN (j := 10) hx hb hown hT hE hW cls_X2 (by omega) (fun σ => so_day0 h0 g hd σ) (by decide) (st_X2_10 h0 s35 d x73) (ln_X2_10 h0 _ _) wn410 rfl rfl rfl rx73 dX0_goOn_78 (fun H locs s74 es74 hW => ?_)
        have q75 : s74 1 1 = s0 1 1 := (show s74 1 1 = s35 1 1 from by rw [es74, xU_k _ _ _ (by omega)]).trans q38
        have q76 : s74 d 7 = x9 := (show s74 d 7 = s35 d 7 from by rw [es74, xU_j _ _ (by decide)]).trans q39
        have q77 : IC s74 := by rw [es74]; exact IC_d hd hp36.1.1 (by omega)
        have hF78 := hF37.put es74 (by omega)
        exact J81 s74 H locs ls hF78 q75 q76 q77 hW (lv_sub hl [1, 2, 3, 4, 5, 6, 0] rfl)
      refine x_icmp_ge (tgt := 63) hx hb rx29 rx34 dX0_goOn_56 (by decide) (fun c79 => ?_) (fun c79 => ?_)
      · skip
        refine x_iconst hx hb dX0_goOn_63 ?_
        exact J64 0 ls (by decide)  (lv_sub hl [0, 1, 2, 3, 4, 5] rfl)
      refine x_iconst hx hb dX0_goOn_59 ?_
      refine lv_goto (tgt := 64) hx hb dX0_goOn_60 (by decide) ?_
      exact J64 1 ls (by decide)  (lv_sub hl [0, 1, 2, 3, 4, 5] rfl)
  exact L9 ((n + 1 - 0 : Int).toNat + 1) 0 s0 H locs ls (by decide) hF p0 k1_1 (by omega) (Nat.lt_succ_self _) hW (lv_sub hl [2, 3, 4, 5, 1, 0] rfl)
