set_option maxHeartbeats 4000000 in
set_option maxRecDepth 100000 in
theorem c_X11_in (l : Launch) (D : va_G) (g : xG) (T : Nat × Nat × Nat) (h0 : Nat) (s0 : xS) (hσ : xRR s0) (x : Int) (rx : xR x) (lo : Int) (rlo : xR lo) (hi : Int) (rhi : xR hi) : Met l yX11_in (xws yX11_in cX11_in 3 (some .boolean)) { frames := 0, cells := 0, slots := 0, locals := 0 } (xP [.int (xJ x), .int (xJ lo), .int (xJ hi)] D g T h0 s0) (xQi D g h0 (fun r τ => s0 = τ ∧ ((r = 1 ∧ lo ≤ x ∧ x ≤ hi) ∨ (r = 0 ∧ (x < lo ∨ hi < x))))) 0 0 (xA h0) := by
  refine x_met hσ (by decide) (Nat.le_of_ble_eq_true rfl) ?_
  intro p e s m args below meth c hx hb hr hml hown hT hlk hnm hE hW ls hl
  have hl : lv_has ls 3 [(0, .int (xJ x)), (1, .int (xJ lo)), (2, .int (xJ hi))] := hl
  obtain ⟨Q, eQ⟩ : ∃ Q, Q = MQ below (xQi D g h0 (fun r τ => s0 = τ ∧ ((r = 1 ∧ lo ≤ x ∧ x ≤ hi) ∨ (r = 0 ∧ (x < lo ∨ hi < x))))) args s 0 0 (xA h0) := ⟨_, rfl⟩
  rw [← eQ]
  generalize hHe : ([] : List Loc) = locs at hW ⊢
  obtain ⟨H, eH⟩ : ∃ H, H = s.heap := ⟨_, rfl⟩
  rw [← eH] at hW ⊢
  refine x_iload_n hx hb hl 0 rfl dX11_in_0 rfl ?_
  refine x_iload_n hx hb hl 1 rfl dX11_in_1 rfl ?_
  refine x_icmp_lt (tgt := 14) hx hb rx rlo dX11_in_2 (by decide) (fun c1 => ?_) (fun c1 => ?_)
  · skip
    refine x_iconst hx hb dX11_in_14 ?_
    rw [eQ]
    exact x_zret hx hb hr hlk hW (by omega) ⟨rfl, by omega⟩ dX11_in_15
  refine x_iload_n hx hb hl 0 rfl dX11_in_5 rfl ?_
  refine x_iload_n hx hb hl 2 rfl dX11_in_6 rfl ?_
  refine x_icmp_gt (tgt := 14) hx hb rx rhi dX11_in_7 (by decide) (fun c2 => ?_) (fun c2 => ?_)
  · skip
    refine x_iconst hx hb dX11_in_14 ?_
    rw [eQ]
    exact x_zret hx hb hr hlk hW (by omega) ⟨rfl, by omega⟩ dX11_in_15
  refine x_iconst hx hb dX11_in_10 ?_
  refine lv_goto (tgt := 15) hx hb dX11_in_11 (by decide) ?_
  rw [eQ]
  exact x_zret hx hb hr hlk hW (by omega) ⟨rfl, by omega⟩ dX11_in_15
set_option maxHeartbeats 4000000 in
set_option maxRecDepth 100000 in
theorem c_X11_max (l : Launch) (D : va_G) (g : xG) (T : Nat × Nat × Nat) (h0 : Nat) (s0 : xS) (hσ : xRR s0) (a : Int) (ra : xR a) (b : Int) (rb : xR b) : Met l yX11_max (xws yX11_max cX11_max 2 (some .int)) { frames := 0, cells := 0, slots := 0, locals := 0 } (xP [.int (xJ a), .int (xJ b)] D g T h0 s0) (xQi D g h0 (fun r τ => s0 = τ ∧ ((r = a ∧ b < a) ∨ (r = b ∧ a ≤ b)))) 0 0 (xA h0) := by
  refine x_met hσ (by decide) (Nat.le_of_ble_eq_true rfl) ?_
  intro p e s m args below meth c hx hb hr hml hown hT hlk hnm hE hW ls hl
  have hl : lv_has ls 2 [(0, .int (xJ a)), (1, .int (xJ b))] := hl
  obtain ⟨Q, eQ⟩ : ∃ Q, Q = MQ below (xQi D g h0 (fun r τ => s0 = τ ∧ ((r = a ∧ b < a) ∨ (r = b ∧ a ≤ b)))) args s 0 0 (xA h0) := ⟨_, rfl⟩
  rw [← eQ]
  generalize hHe : ([] : List Loc) = locs at hW ⊢
  obtain ⟨H, eH⟩ : ∃ H, H = s.heap := ⟨_, rfl⟩
  rw [← eH] at hW ⊢
  refine x_iload_n hx hb hl 0 rfl dX11_max_0 rfl ?_
  refine x_iload_n hx hb hl 1 rfl dX11_max_1 rfl ?_
  refine x_icmp_le (tgt := 9) hx hb ra rb dX11_max_2 (by decide) (fun c1 => ?_) (fun c1 => ?_)
  · skip
    refine x_iload_n hx hb hl 1 rfl dX11_max_9 rfl ?_
    rw [eQ]
    exact x_iret hx hb hr hlk hW rb ⟨rfl, by omega⟩ dX11_max_10
  refine x_iload_n hx hb hl 0 rfl dX11_max_5 rfl ?_
  refine lv_goto (tgt := 10) hx hb dX11_max_6 (by decide) ?_
  rw [eQ]
  exact x_iret hx hb hr hlk hW ra ⟨rfl, by omega⟩ dX11_max_10
set_option maxHeartbeats 4000000 in
set_option maxRecDepth 100000 in
theorem c_X11_has (l : Launch) (D : va_G) (g : xG) (T : Nat × Nat × Nat) (h0 : Nat) (s0 : xS) (hσ : xRR s0) (a : Int) (ra : xR a) (q : Int) (rq : xR q) (ha0 : a = 0) : Met l yX11_has (xws yX11_has cX11_has 2 (some .boolean)) { frames := 0, cells := 0, slots := 0, locals := 0 } (xP [.int (xJ a), .int (xJ q)] D g T h0 s0) (xQi D g h0 (fun r τ => s0 = τ ∧ (r = 0))) 0 0 (xA h0) := by
  refine x_met hσ (by decide) (Nat.le_of_ble_eq_true rfl) ?_
  intro p e s m args below meth c hx hb hr hml hown hT hlk hnm hE hW ls hl
  have hl : lv_has ls 2 [(0, .int (xJ a)), (1, .int (xJ q))] := hl
  obtain ⟨Q, eQ⟩ : ∃ Q, Q = MQ below (xQi D g h0 (fun r τ => s0 = τ ∧ (r = 0))) args s 0 0 (xA h0) := ⟨_, rfl⟩
  rw [← eQ]
  generalize hHe : ([] : List Loc) = locs at hW ⊢
  obtain ⟨H, eH⟩ : ∃ H, H = s.heap := ⟨_, rfl⟩
  rw [← eH] at hW ⊢
  refine x_iload_n hx hb hl 0 rfl dX11_has_0 rfl ?_
  refine x_iload_n hx hb hl 1 rfl dX11_has_1 rfl ?_
  refine x_ishr0 hx hb (by omega) dX11_has_2 ?_
  refine x_iconst hx hb dX11_has_3 ?_
  refine x_iand0 hx hb (by omega) dX11_has_4 ?_
  refine x_iconst hx hb dX11_has_5 ?_
  refine x_icmp_ne (tgt := 13) hx hb (by decide) (by decide) dX11_has_6 (by decide) (fun c1 => ?_) (fun c1 => False.elim (by omega))
  refine x_iconst hx hb dX11_has_13 ?_
  rw [eQ]
  exact x_zret hx hb hr hlk hW (by omega) ⟨rfl, by omega⟩ dX11_has_14
set_option maxHeartbeats 4000000 in
set_option maxRecDepth 100000 in
theorem c_X11_bits (l : Launch) (D : va_G) (g : xG) (T : Nat × Nat × Nat) (h0 : Nat) (s0 : xS) (hσ : xRR s0) (a : Int) (ra : xR a) (ha0 : a = 0) : Met l yX11_bits (xws yX11_bits cX11_bits 3 (some .int)) { frames := 0, cells := 0, slots := 0, locals := 0 } (xP [.int (xJ a)] D g T h0 s0) (xQi D g h0 (fun r τ => s0 = τ ∧ (r = 0))) 0 0 (xA h0) := by
  refine x_met hσ (by decide) (Nat.le_of_ble_eq_true rfl) ?_
  intro p e s m args below meth c hx hb hr hml hown hT hlk hnm hE hW ls hl
  have hl : lv_has ls 3 [(0, .int (xJ a))] := hl
  obtain ⟨Q, eQ⟩ : ∃ Q, Q = MQ below (xQi D g h0 (fun r τ => s0 = τ ∧ (r = 0))) args s 0 0 (xA h0) := ⟨_, rfl⟩
  rw [← eQ]
  generalize hHe : ([] : List Loc) = locs at hW ⊢
  obtain ⟨H, eH⟩ : ∃ H, H = s.heap := ⟨_, rfl⟩
  rw [← eH] at hW ⊢
  refine x_iconst hx hb dX11_bits_0 ?_
  refine lv_istore_n (lv' := [(1, .int (xJ 0)), (0, .int (xJ a))]) hx hb dX11_bits_1 rfl hl (by decide) rfl (fun ls hl => ?_)
  refine x_iconst hx hb dX11_bits_2 ?_
  refine lv_istore_n (lv' := [(2, .int (xJ 0)), (1, .int (xJ 0)), (0, .int (xJ a))]) hx hb dX11_bits_3 rfl hl (by decide) rfl (fun ls hl => ?_)
  have L4 : ∀ (fu : Nat) (i1_4 : Int) (i2_4 : Int) (ls : Array Slot), (xR i1_4) → (xR i2_4) → (0 ≤ i2_4) → (i1_4 = 0) → (10 - i2_4).toNat < fu → lv_has ls 3 [(0, .int (xJ a)), (1, .int (xJ i1_4)), (2, .int (xJ i2_4))] → W p l e { frames := 0, cells := 0, slots := 0, locals := 0 } s m args below meth c H locs 0 0 Q (F0 m 4 ls []) := by
    intro fu
    induction fu with
    | zero => intro i1_4 i2_4 ls ri1_4 ri2_4 v4_0 v4_1 hm; exact absurd hm (Nat.not_lt_zero _)
    | succ fu ih4 =>
      intro i1_4 i2_4 ls ri1_4 ri2_4 v4_0 v4_1 hm  hl
      refine x_iload_n hx hb hl 2 rfl dX11_bits_4 rfl ?_
      refine x_bipush hx hb dX11_bits_5 (by decide) ?_
      refine x_icmp_ge (tgt := 24) hx hb ri2_4 (by decide) dX11_bits_7 (by decide) (fun c1 => ?_) (fun c1 => ?_)
      · skip
        refine x_iload_n hx hb hl 1 rfl dX11_bits_24 rfl ?_
        rw [eQ]
        exact x_iret hx hb hr hlk hW ri1_4 ⟨rfl, by omega⟩ dX11_bits_25
      refine x_iload_n hx hb hl 1 rfl dX11_bits_10 rfl ?_
      refine x_iload_n hx hb hl 0 rfl dX11_bits_11 rfl ?_
      refine x_iload_n hx hb hl 2 rfl dX11_bits_12 rfl ?_
      refine x_ishr0 hx hb (by omega) dX11_bits_13 ?_
      refine x_iconst hx hb dX11_bits_14 ?_
      refine x_iand0 hx hb (by omega) dX11_bits_15 ?_
      refine x_iadd hx hb dX11_bits_16 ?_
      refine x_nm (fun x2 ex2 => ?_)
      refine lv_istore_n (lv' := [(1, .int (xJ x2)), (0, .int (xJ a)), (2, .int (xJ i2_4))]) hx hb dX11_bits_17 rfl hl (by decide) rfl (fun ls hl => ?_)
      refine x_iinc (lv' := [(2, .int (xJ (i2_4 + 1))), (1, .int (xJ x2)), (0, .int (xJ a))]) hx hb hl 2 rfl dX11_bits_18 (by decide) rfl (fun ls hl => ?_)
      refine lv_goto (tgt := 4) hx hb dX11_bits_21 (by decide) ?_
      exact ih4 x2 (i2_4 + 1) ls (by omega) (by omega) (by omega) (by omega) (by omega)  (lv_sub hl [2, 1, 0] rfl)
  exact L4 ((10 - 0 : Int).toNat + 1) 0 0 ls (by decide) (by decide) (by omega) (by omega) (Nat.lt_succ_self _)  (lv_sub hl [2, 1, 0] rfl)
set_option maxHeartbeats 4000000 in
set_option maxRecDepth 100000 in
theorem c_X11_isFive (l : Launch) (D : va_G) (g : xG) (T : Nat × Nat × Nat) (h0 : Nat) (s0 : xS) (hσ : xRR s0) (x : Int) (rx : xR x) (q : Int) (rq : xR q) : Met l yX11_isFive (xws yX11_isFive cX11_isFive 2 (some .boolean)) { frames := 0, cells := 0, slots := 0, locals := 0 } (xP [.int (xJ x), .int (xJ q)] D g T h0 s0) (xQi D g h0 (fun r τ => s0 = τ ∧ ((r = 1 ∧ 0 ≤ x ∧ x < q) ∨ (r = 0 ∧ (x < 0 ∨ q ≤ x))))) 0 0 (xA h0) := by
  refine x_met hσ (by decide) (Nat.le_of_ble_eq_true rfl) ?_
  intro p e s m args below meth c hx hb hr hml hown hT hlk hnm hE hW ls hl
  have hl : lv_has ls 2 [(0, .int (xJ x)), (1, .int (xJ q))] := hl
  obtain ⟨Q, eQ⟩ : ∃ Q, Q = MQ below (xQi D g h0 (fun r τ => s0 = τ ∧ ((r = 1 ∧ 0 ≤ x ∧ x < q) ∨ (r = 0 ∧ (x < 0 ∨ q ≤ x))))) args s 0 0 (xA h0) := ⟨_, rfl⟩
  rw [← eQ]
  generalize hHe : ([] : List Loc) = locs at hW ⊢
  obtain ⟨H, eH⟩ : ∃ H, H = s.heap := ⟨_, rfl⟩
  rw [← eH] at hW ⊢
  refine x_iload_n hx hb hl 0 rfl dX11_isFive_0 rfl ?_
  refine x_if_lt (tgt := 13) hx hb rx dX11_isFive_1 (by decide) (fun c1 => ?_) (fun c1 => ?_)
  · skip
    refine x_iconst hx hb dX11_isFive_13 ?_
    rw [eQ]
    exact x_zret hx hb hr hlk hW (by omega) ⟨rfl, by omega⟩ dX11_isFive_14
  refine x_iload_n hx hb hl 0 rfl dX11_isFive_4 rfl ?_
  refine x_iload_n hx hb hl 1 rfl dX11_isFive_5 rfl ?_
  refine x_icmp_ge (tgt := 13) hx hb rx rq dX11_isFive_6 (by decide) (fun c2 => ?_) (fun c2 => ?_)
  · skip
    refine x_iconst hx hb dX11_isFive_13 ?_
    rw [eQ]
    exact x_zret hx hb hr hlk hW (by omega) ⟨rfl, by omega⟩ dX11_isFive_14
  refine x_iconst hx hb dX11_isFive_9 ?_
  refine lv_goto (tgt := 14) hx hb dX11_isFive_10 (by decide) ?_
  rw [eQ]
  exact x_zret hx hb hr hlk hW (by omega) ⟨rfl, by omega⟩ dX11_isFive_14
set_option maxHeartbeats 4000000 in
set_option maxRecDepth 100000 in
theorem c_X11_isJudge (l : Launch) (D : va_G) (g : xG) (T : Nat × Nat × Nat) (h0 : Nat) (s0 : xS) (hσ : xRR s0) (j : Int) (rj : xR j) (p0 : s0 269 34 = 0) : Met l yX11_isJudge (xws yX11_isJudge cX11_isJudge 2 (some .boolean)) { frames := 1, cells := 0, slots := 0, locals := 21 } (xP [.ref (h0 + 268), .int (xJ j)] D g T h0 s0) (xQi D g h0 (fun r τ => s0 = τ ∧ (r = 0))) 0 0 (xA h0) := by
  refine x_met hσ (by decide) (Nat.le_of_ble_eq_true rfl) ?_
  intro p e s m args below meth c hx hb hr hml hown hT hlk hnm hE hW ls hl
  have hl : lv_has ls 2 [(0, .ref (h0 + 268)), (1, .int (xJ j))] := hl
  obtain ⟨Q, eQ⟩ : ∃ Q, Q = MQ below (xQi D g h0 (fun r τ => s0 = τ ∧ (r = 0))) args s 0 0 (xA h0) := ⟨_, rfl⟩
  rw [← eQ]
  generalize hHe : ([] : List Loc) = locs at hW ⊢
  obtain ⟨H, eH⟩ : ∃ H, H = s.heap := ⟨_, rfl⟩
  rw [← eH] at hW ⊢
  refine x_iload_n hx hb hl 1 rfl dX11_isJudge_0 rfl ?_
  refine x_iconst hx hb dX11_isJudge_1 ?_
  refine x_goi (x_runS (As := [.int (xJ j), .int (xJ 2)]) hx hb hml hown hT hE hW hl.1 cf_X11_isFive wq1412 wq1411 (c_X11_isFive l D g T h0 s0 hW.2.1 j rj 2 (by decide)) ⟨rfl, rfl, ⟨by decide, by decide⟩, ⟨by decide, by decide⟩⟩ rfl rfl (Nat.le_of_ble_eq_true rfl) dX11_isJudge_2) hW (fun x1 s2 H locs rx1 hp3 hW => ?_)
  obtain ⟨es2, hp3⟩ := hp3
  subst es2
  have ghp3 := hp3
  refine x_if_eq (tgt := 26) hx hb rx1 dX11_isJudge_5 (by decide) (fun c4 => ?_) (fun c4 => ?_)
  · skip
    refine x_iconst hx hb dX11_isJudge_26 ?_
    rw [eQ]
    exact x_zret hx hb hr hlk hW (by omega) ⟨rfl, by omega⟩ dX11_isJudge_27
  refine x_aload_n hx hb hl 0 rfl dX11_isJudge_8 rfl ?_
  refine x_get (j := 0) (v := .ref (h0 + 269)) hx hb hown hT hE hW cls_X11 (Or.inl (by decide)) (so_268 h0 g _) (by decide) rfl wq1185 dX11_isJudge_9 ?_
  refine x_bipush hx hb dX11_isJudge_12 (by decide) ?_
  refine x_iald hx hb hE hW (Or.inl (by decide)) (sa_269 h0 g _) ⟨by decide, by decide⟩ (by decide) dX11_isJudge_14 ?_
  refine x_rd hW (fun x5 ex5 rx5 => ?_)
  have fx5 : x5 = 0 := by rw [ex5, p0]
  refine x_iload_n hx hb hl 1 rfl dX11_isJudge_15 rfl ?_
  refine x_goi (x_runS (As := [.int (xJ x5), .int (xJ j)]) hx hb hml hown hT hE hW hl.1 cf_X11_has wq1415 wq1414 (c_X11_has l D g T h0 s0 hW.2.1 x5 rx5 j rj (by omega)) ⟨rfl, rfl, ⟨by decide, by decide⟩, ⟨by decide, by decide⟩⟩ rfl rfl (Nat.le_of_ble_eq_true rfl) dX11_isJudge_16) hW (fun x6 s7 H locs rx6 hp8 hW => ?_)
  obtain ⟨es7, hp8⟩ := hp8
  subst es7
  have ghp8 := hp8
  refine x_if_eq (tgt := 26) hx hb rx6 dX11_isJudge_19 (by decide) (fun c9 => ?_) (fun c9 => False.elim (by omega))
  refine x_iconst hx hb dX11_isJudge_26 ?_
  rw [eQ]
  exact x_zret hx hb hr hlk hW (by omega) ⟨rfl, by omega⟩ dX11_isJudge_27
set_option maxHeartbeats 4000000 in
set_option maxRecDepth 100000 in
theorem c_X11_isFelon (l : Launch) (D : va_G) (g : xG) (T : Nat × Nat × Nat) (h0 : Nat) (s0 : xS) (hσ : xRR s0) (f : Int) (rf : xR f) (p0 : s0 269 35 = 0) : Met l yX11_isFelon (xws yX11_isFelon cX11_isFelon 2 (some .boolean)) { frames := 1, cells := 0, slots := 0, locals := 21 } (xP [.ref (h0 + 268), .int (xJ f)] D g T h0 s0) (xQi D g h0 (fun r τ => s0 = τ ∧ (r = 0))) 0 0 (xA h0) := by
  refine x_met hσ (by decide) (Nat.le_of_ble_eq_true rfl) ?_
  intro p e s m args below meth c hx hb hr hml hown hT hlk hnm hE hW ls hl
  have hl : lv_has ls 2 [(0, .ref (h0 + 268)), (1, .int (xJ f))] := hl
  obtain ⟨Q, eQ⟩ : ∃ Q, Q = MQ below (xQi D g h0 (fun r τ => s0 = τ ∧ (r = 0))) args s 0 0 (xA h0) := ⟨_, rfl⟩
  rw [← eQ]
  generalize hHe : ([] : List Loc) = locs at hW ⊢
  obtain ⟨H, eH⟩ : ∃ H, H = s.heap := ⟨_, rfl⟩
  rw [← eH] at hW ⊢
  refine x_iload_n hx hb hl 1 rfl dX11_isFelon_0 rfl ?_
  refine x_bipush hx hb dX11_isFelon_1 (by decide) ?_
  refine x_goi (x_runS (As := [.int (xJ f), .int (xJ 10)]) hx hb hml hown hT hE hW hl.1 cf_X11_isFive wq1412 wq1411 (c_X11_isFive l D g T h0 s0 hW.2.1 f rf 10 (by decide)) ⟨rfl, rfl, ⟨by decide, by decide⟩, ⟨by decide, by decide⟩⟩ rfl rfl (Nat.le_of_ble_eq_true rfl) dX11_isFelon_3) hW (fun x1 s2 H locs rx1 hp3 hW => ?_)
  obtain ⟨es2, hp3⟩ := hp3
  subst es2
  have ghp3 := hp3
  refine x_if_eq (tgt := 27) hx hb rx1 dX11_isFelon_6 (by decide) (fun c4 => ?_) (fun c4 => ?_)
  · skip
    refine x_iconst hx hb dX11_isFelon_27 ?_
    rw [eQ]
    exact x_zret hx hb hr hlk hW (by omega) ⟨rfl, by omega⟩ dX11_isFelon_28
  refine x_aload_n hx hb hl 0 rfl dX11_isFelon_9 rfl ?_
  refine x_get (j := 0) (v := .ref (h0 + 269)) hx hb hown hT hE hW cls_X11 (Or.inl (by decide)) (so_268 h0 g _) (by decide) rfl wq1185 dX11_isFelon_10 ?_
  refine x_bipush hx hb dX11_isFelon_13 (by decide) ?_
  refine x_iald hx hb hE hW (Or.inl (by decide)) (sa_269 h0 g _) ⟨by decide, by decide⟩ (by decide) dX11_isFelon_15 ?_
  refine x_rd hW (fun x5 ex5 rx5 => ?_)
  have fx5 : x5 = 0 := by rw [ex5, p0]
  refine x_iload_n hx hb hl 1 rfl dX11_isFelon_16 rfl ?_
  refine x_goi (x_runS (As := [.int (xJ x5), .int (xJ f)]) hx hb hml hown hT hE hW hl.1 cf_X11_has wq1415 wq1414 (c_X11_has l D g T h0 s0 hW.2.1 x5 rx5 f rf (by omega)) ⟨rfl, rfl, ⟨by decide, by decide⟩, ⟨by decide, by decide⟩⟩ rfl rfl (Nat.le_of_ble_eq_true rfl) dX11_isFelon_17) hW (fun x6 s7 H locs rx6 hp8 hW => ?_)
  obtain ⟨es7, hp8⟩ := hp8
  subst es7
  have ghp8 := hp8
  refine x_if_eq (tgt := 27) hx hb rx6 dX11_isFelon_20 (by decide) (fun c9 => ?_) (fun c9 => False.elim (by omega))
  refine x_iconst hx hb dX11_isFelon_27 ?_
  rw [eQ]
  exact x_zret hx hb hr hlk hW (by omega) ⟨rfl, by omega⟩ dX11_isFelon_28
set_option maxHeartbeats 4000000 in
set_option maxRecDepth 100000 in
theorem c_X11_owes (l : Launch) (D : va_G) (g : xG) (T : Nat × Nat × Nat) (h0 : Nat) (s0 : xS) (hσ : xRR s0) (f : Int) (rf : xR f) (p0 : s0 269 35 = 0) : Met l yX11_owes (xws yX11_owes cX11_owes 2 (some .boolean)) { frames := 2, cells := 0, slots := 0, locals := 42 } (xP [.ref (h0 + 268), .int (xJ f)] D g T h0 s0) (xQi D g h0 (fun r τ => s0 = τ ∧ (r = 0))) 0 0 (xA h0) := by
  refine x_met hσ (by decide) (Nat.le_of_ble_eq_true rfl) ?_
  intro p e s m args below meth c hx hb hr hml hown hT hlk hnm hE hW ls hl
  have hl : lv_has ls 2 [(0, .ref (h0 + 268)), (1, .int (xJ f))] := hl
  obtain ⟨Q, eQ⟩ : ∃ Q, Q = MQ below (xQi D g h0 (fun r τ => s0 = τ ∧ (r = 0))) args s 0 0 (xA h0) := ⟨_, rfl⟩
  rw [← eQ]
  generalize hHe : ([] : List Loc) = locs at hW ⊢
  obtain ⟨H, eH⟩ : ∃ H, H = s.heap := ⟨_, rfl⟩
  rw [← eH] at hW ⊢
  refine x_aload_n hx hb hl 0 rfl dX11_owes_0 rfl ?_
  refine x_iload_n hx hb hl 1 rfl dX11_owes_1 rfl ?_
  refine x_goi (x_runV (As := [.int (xJ f)]) hx hb hml hown hT hE hW hl.1 (Or.inl (by decide)) (so_268 h0 g _) rfl cf_X11_isFelon wq1423 wq111 wq1421 (c_X11_isFelon l D g T h0 s0 hW.2.1 f rf p0) ⟨rfl, rfl, ⟨by decide, by decide⟩, ⟨by decide, by decide⟩⟩ rfl rfl (Nat.le_of_ble_eq_true rfl) dX11_owes_2) hW (fun x1 s2 H locs rx1 hp3 hW => ?_)
  obtain ⟨es2, hp3⟩ := hp3
  subst es2
  have ghp3 := hp3
  refine x_if_eq (tgt := 38) hx hb rx1 dX11_owes_5 (by decide) (fun c4 => ?_) (fun c4 => False.elim (by omega))
  refine x_iconst hx hb dX11_owes_38 ?_
  rw [eQ]
  exact x_zret hx hb hr hlk hW (by omega) ⟨rfl, by omega⟩ dX11_owes_39
set_option maxHeartbeats 4000000 in
set_option maxRecDepth 100000 in
theorem c_X11_isOn (l : Launch) (D : va_G) (g : xG) (T : Nat × Nat × Nat) (h0 : Nat) (s0 : xS) (hσ : xRR s0) (x : Int) (rx : xR x) (y : Int) (ry : xR y) : Met l yX11_isOn (xws yX11_isOn cX11_isOn 2 (some .boolean)) { frames := 1, cells := 0, slots := 0, locals := 22 } (xP [.int (xJ x), .int (xJ y)] D g T h0 s0) (xQi D g h0 (fun r τ => s0 = τ ∧ ((r = 1 ∧ 0 ≤ x ∧ x < 10 ∧ 0 ≤ y ∧ y < 10) ∨ (r = 0 ∧ ¬ (0 ≤ x ∧ x < 10 ∧ 0 ≤ y ∧ y < 10))))) 0 0 (xA h0) := by
  refine x_met hσ (by decide) (Nat.le_of_ble_eq_true rfl) ?_
  intro p e s m args below meth c hx hb hr hml hown hT hlk hnm hE hW ls hl
  have hl : lv_has ls 2 [(0, .int (xJ x)), (1, .int (xJ y))] := hl
  obtain ⟨Q, eQ⟩ : ∃ Q, Q = MQ below (xQi D g h0 (fun r τ => s0 = τ ∧ ((r = 1 ∧ 0 ≤ x ∧ x < 10 ∧ 0 ≤ y ∧ y < 10) ∨ (r = 0 ∧ ¬ (0 ≤ x ∧ x < 10 ∧ 0 ≤ y ∧ y < 10))))) args s 0 0 (xA h0) := ⟨_, rfl⟩
  rw [← eQ]
  generalize hHe : ([] : List Loc) = locs at hW ⊢
  obtain ⟨H, eH⟩ : ∃ H, H = s.heap := ⟨_, rfl⟩
  rw [← eH] at hW ⊢
  refine x_iload_n hx hb hl 0 rfl dX11_isOn_0 rfl ?_
  refine x_iconst hx hb dX11_isOn_1 ?_
  refine x_bipush hx hb dX11_isOn_2 (by decide) ?_
  refine x_goi (x_runS (As := [.int (xJ x), .int (xJ 0), .int (xJ 9)]) hx hb hml hown hT hE hW hl.1 cf_X11_in wq1383 wq1382 (c_X11_in l D g T h0 s0 hW.2.1 x rx 0 (by decide) 9 (by decide)) ⟨rfl, rfl, ⟨by decide, by decide⟩, ⟨by decide, by decide⟩⟩ rfl rfl (Nat.le_of_ble_eq_true rfl) dX11_isOn_4) hW (fun x1 s2 H locs rx1 hp3 hW => ?_)
  obtain ⟨es2, hp3⟩ := hp3
  subst es2
  have ghp3 := hp3
  refine x_if_eq (tgt := 24) hx hb rx1 dX11_isOn_7 (by decide) (fun c4 => ?_) (fun c4 => ?_)
  · skip
    refine x_iconst hx hb dX11_isOn_24 ?_
    rw [eQ]
    exact x_zret hx hb hr hlk hW (by omega) ⟨rfl, by omega⟩ dX11_isOn_25
  refine x_iload_n hx hb hl 1 rfl dX11_isOn_10 rfl ?_
  refine x_iconst hx hb dX11_isOn_11 ?_
  refine x_bipush hx hb dX11_isOn_12 (by decide) ?_
  refine x_goi (x_runS (As := [.int (xJ y), .int (xJ 0), .int (xJ 9)]) hx hb hml hown hT hE hW hl.1 cf_X11_in wq1383 wq1382 (c_X11_in l D g T h0 s0 hW.2.1 y ry 0 (by decide) 9 (by decide)) ⟨rfl, rfl, ⟨by decide, by decide⟩, ⟨by decide, by decide⟩⟩ rfl rfl (Nat.le_of_ble_eq_true rfl) dX11_isOn_14) hW (fun x5 s6 H locs rx5 hp7 hW => ?_)
  obtain ⟨es6, hp7⟩ := hp7
  subst es6
  have ghp7 := hp7
  refine x_if_eq (tgt := 24) hx hb rx5 dX11_isOn_17 (by decide) (fun c8 => ?_) (fun c8 => ?_)
  · skip
    refine x_iconst hx hb dX11_isOn_24 ?_
    rw [eQ]
    exact x_zret hx hb hr hlk hW (by omega) ⟨rfl, by omega⟩ dX11_isOn_25
  refine x_iconst hx hb dX11_isOn_20 ?_
  refine lv_goto (tgt := 25) hx hb dX11_isOn_21 (by decide) ?_
  rw [eQ]
  exact x_zret hx hb hr hlk hW (by omega) ⟨rfl, by omega⟩ dX11_isOn_25
set_option maxHeartbeats 4000000 in
set_option maxRecDepth 100000 in
theorem c_X11_isGround (l : Launch) (D : va_G) (g : xG) (T : Nat × Nat × Nat) (h0 : Nat) (s0 : xS) (hσ : xRR s0) (x : Int) (rx : xR x) (hx0 : 0 ≤ x ∧ x < 100) (p0 : s0 272 = fun _ => 0) : Met l yX11_isGround (xws yX11_isGround cX11_isGround 2 (some .boolean)) { frames := 0, cells := 0, slots := 0, locals := 0 } (xP [.ref (h0 + 268), .int (xJ x)] D g T h0 s0) (xQi D g h0 (fun r τ => s0 = τ ∧ (r = 1))) 0 0 (xA h0) := by
  refine x_met hσ (by decide) (Nat.le_of_ble_eq_true rfl) ?_
  intro p e s m args below meth c hx hb hr hml hown hT hlk hnm hE hW ls hl
  have hl : lv_has ls 2 [(0, .ref (h0 + 268)), (1, .int (xJ x))] := hl
  obtain ⟨Q, eQ⟩ : ∃ Q, Q = MQ below (xQi D g h0 (fun r τ => s0 = τ ∧ (r = 1))) args s 0 0 (xA h0) := ⟨_, rfl⟩
  rw [← eQ]
  generalize hHe : ([] : List Loc) = locs at hW ⊢
  obtain ⟨H, eH⟩ : ∃ H, H = s.heap := ⟨_, rfl⟩
  rw [← eH] at hW ⊢
  refine x_aload_n hx hb hl 0 rfl dX11_isGround_0 rfl ?_
  refine x_get (j := 3) (v := .ref (h0 + 272)) hx hb hown hT hE hW cls_X11 (Or.inl (by decide)) (so_268 h0 g _) (by decide) rfl wq1188 dX11_isGround_1 ?_
  refine x_iload_n hx hb hl 1 rfl dX11_isGround_4 rfl ?_
  refine x_iald hx hb hE hW (Or.inl (by decide)) (sa_272 h0 g _) (by omega) (by decide) dX11_isGround_5 ?_
  refine x_rd hW (fun x1 ex1 rx1 => ?_)
  have fx1 : x1 = 0 := by rw [ex1, p0]
  refine x_if_eq (tgt := 19) hx hb rx1 dX11_isGround_6 (by decide) (fun c2 => ?_) (fun c2 => False.elim (by omega))
  refine x_iconst hx hb dX11_isGround_19 ?_
  refine lv_goto (tgt := 24) hx hb dX11_isGround_20 (by decide) ?_
  rw [eQ]
  exact x_zret hx hb hr hlk hW (by omega) ⟨rfl, by omega⟩ dX11_isGround_24
set_option maxHeartbeats 4000000 in
set_option maxRecDepth 100000 in
theorem c_X11_types (l : Launch) (D : va_G) (g : xG) (T : Nat × Nat × Nat) (h0 : Nat) (s0 : xS) (hσ : xRR s0) (v : Int) (rv : xR v) (zl : Int) (hz : 0 ≤ zl ∧ zl ≤ 256) (p0 : s0 268 8 = zl) : Met l yX11_types (xws yX11_types cX11_types 3 none) { frames := 0, cells := 0, slots := 0, locals := 0 } (xP [.ref (h0 + 268), .int (xJ v)] D g T h0 s0) (xQv D g h0 (fun τ => xFr (fun k => k = 268 ∨ k = 276) s0 τ ∧ (((τ 268 8 = zl + 4) ∧ True) ∧ (True)))) 0 0 (xA h0) := by
  refine x_met hσ (by decide) (Nat.le_of_ble_eq_true rfl) ?_
  intro p e s m args below meth c hx hb hr hml hown hT hlk hnm hE hW ls hl
  have hl : lv_has ls 3 [(0, .ref (h0 + 268)), (1, .int (xJ v))] := hl
  obtain ⟨Q, eQ⟩ : ∃ Q, Q = MQ below (xQv D g h0 (fun τ => xFr (fun k => k = 268 ∨ k = 276) s0 τ ∧ (((τ 268 8 = zl + 4) ∧ True) ∧ (True)))) args s 0 0 (xA h0) := ⟨_, rfl⟩
  rw [← eQ]
  generalize hHe : ([] : List Loc) = locs at hW ⊢
  obtain ⟨H, eH⟩ : ∃ H, H = s.heap := ⟨_, rfl⟩
  rw [← eH] at hW ⊢
  have hF : xFr (fun k => k = 268 ∨ k = 276) s0 s0 := xFr.rf
  refine x_iconst hx hb dX11_types_0 ?_
  refine lv_istore_n (lv' := [(2, .int (xJ 3)), (0, .ref (h0 + 268)), (1, .int (xJ v))]) hx hb dX11_types_1 rfl hl (by decide) rfl (fun ls hl => ?_)
  have L2 : ∀ (fu : Nat) (i2_2 : Int) (s_2 : xS) (H : Heap) (locs : List Loc) (ls : Array Slot), (xR i2_2) → (xFr (fun k => k = 268 ∨ k = 276) s0 s_2) → (-1 ≤ i2_2 ∧ i2_2 ≤ 3) → (s_2 268 8 = zl + 3 - i2_2) → (i2_2 + 1).toNat < fu → xW D g h0 s H locs s_2 → lv_has ls 3 [(0, .ref (h0 + 268)), (1, .int (xJ v)), (2, .int (xJ i2_2))] → W p l e { frames := 0, cells := 0, slots := 0, locals := 0 } s m args below meth c H locs 0 0 Q (F0 m 2 ls []) := by
    intro fu
    induction fu with
    | zero => intro i2_2 s_2 H locs ls ri2_2 hF_2 v2_0 v2_1 hm; exact absurd hm (Nat.not_lt_zero _)
    | succ fu ih2 =>
      intro i2_2 s_2 H locs ls ri2_2 hF_2 v2_0 v2_1 hm hW hl
      refine x_iload_n hx hb hl 2 rfl dX11_types_2 rfl ?_
      refine x_if_lt (tgt := 38) hx hb ri2_2 dX11_types_3 (by decide) (fun c1 => ?_) (fun c1 => ?_)
      · skip
        rw [eQ]
        exact x_vret hx hb hr hlk hW ⟨hF_2, ⟨(by omega), trivial⟩, trivial⟩ dX11_types_38
      refine x_aload_n hx hb hl 0 rfl dX11_types_6 rfl ?_
      refine x_get (j := 7) (v := .ref (h0 + 276)) hx hb hown hT hE hW cls_X11 (Or.inl (by decide)) (so_268 h0 g _) (by decide) rfl wq1192 dX11_types_7 ?_
      refine x_aload_n hx hb hl 0 rfl dX11_types_10 rfl ?_
      refine x_get (j := 8) (v := .int (xJ (s_2 268 8))) hx hb hown hT hE hW cls_X11 (Or.inl (by decide)) (so_268 h0 g _) (by decide) rfl wq1193 dX11_types_11 ?_
      refine x_rd hW (fun x2 ex2 rx2 => ?_)
      have q3 : s_2 268 8 = x2 := ex2.symm
      refine x_iload_n hx hb hl 1 rfl dX11_types_14 rfl ?_
      refine x_bipush hx hb dX11_types_15 (by decide) ?_
      refine x_iload_n hx hb hl 2 rfl dX11_types_17 rfl ?_
      refine x_imul hx hb dX11_types_18 ?_
      refine lv_ishr hx hb dX11_types_19 ?_
      refine x_any (fun x4 rx4 => ?_)
      refine lv_i2b hx hb dX11_types_20 rfl ?_
      refine x_any (fun x5 rx5 => ?_)
      obtain ⟨y7, ey7, ry7⟩ := xnb x5
      refine x_bast (w := y7) hx hb hE hW (by decide) (fun σ => sa_276 h0 g σ) (by omega) (by decide) ey7 ry7 dX11_types_21 (fun H locs s6 es6 hW => ?_)
      have q8 : s6 268 8 = x2 := by rw [es6, xU_k _ _ _ (by omega)]; exact q3
      have hF9 := hF_2.put es6 (by omega)
      refine x_aload_n hx hb hl 0 rfl dX11_types_22 rfl ?_
      refine x_aload_n hx hb hl 0 rfl dX11_types_23 rfl ?_
      refine x_get (j := 8) (v := .int (xJ (s6 268 8))) hx hb hown hT hE hW cls_X11 (Or.inl (by decide)) (so_268 h0 g _) (by decide) rfl wq1193 dX11_types_24 ?_
      refine x_rd hW (fun x10 ex10 rx10 => ?_)
      have fx10 : x10 = x2 := by rw [ex10, q8]
      refine x_iconst hx hb dX11_types_27 ?_
      refine x_iadd hx hb dX11_types_28 ?_
      refine x_put (j := 8) hx hb hown hT hE hW cls_X11 (by decide) (fun σ => so_268 h0 g σ) (by decide) (st_X11_8 h0 s6 268 (x10 + 1)) (ln_X11_8 h0 _ _) wq1193 rfl rfl rfl (by omega) dX11_types_29 (fun H locs s11 es11 hW => ?_)
      have q12 : s11 268 8 = (x10 + 1) := by rw [es11, xU_s]
      have hF13 := hF9.put es11 (by omega)
      refine x_iinc (lv' := [(2, .int (xJ (i2_2 + (-1)))), (0, .ref (h0 + 268)), (1, .int (xJ v))]) hx hb hl 2 rfl dX11_types_32 (by decide) rfl (fun ls hl => ?_)
      refine lv_goto (tgt := 2) hx hb dX11_types_35 (by decide) ?_
      exact ih2 (i2_2 + (-1)) s11 H locs ls (by omega) hF13 (by omega) (by rw [q12]; omega) (by omega) hW (lv_sub hl [1, 2, 0] rfl)
  exact L2 ((3 + 1 : Int).toNat + 1) 3 s0 H locs ls (by decide) hF (by omega) (by rw [p0]; omega) (Nat.lt_succ_self _) hW (lv_sub hl [1, 2, 0] rfl)
set_option maxHeartbeats 4000000 in
set_option maxRecDepth 100000 in
theorem c_X11_feed (l : Launch) (D : va_G) (g : xG) (T : Nat × Nat × Nat) (h0 : Nat) (s0 : xS) (hσ : xRR s0) (v1 : Int) (rv1 : xR v1) (v2 : Int) (rv2 : xR v2) (v3 : Int) (rv3 : xR v3) (v4 : Int) (rv4 : xR v4) (v5 : Int) (rv5 : xR v5) (p0 : s0 268 8 = 0) : Met l yX11_feed (xws yX11_feed cX11_feed 6 (some .int)) { frames := 1, cells := 0, slots := 0, locals := 22 } (xP [.ref (h0 + 268), .int (xJ v1), .int (xJ v2), .int (xJ v3), .int (xJ v4), .int (xJ v5)] D g T h0 s0) (xQi D g h0 (fun r τ => xFr (fun k => k = 268 ∨ k = 276) s0 τ ∧ (r = 20))) 0 0 (xA h0) := by
  refine x_met hσ (by decide) (Nat.le_of_ble_eq_true rfl) ?_
  intro p e s m args below meth c hx hb hr hml hown hT hlk hnm hE hW ls hl
  have hl : lv_has ls 6 [(0, .ref (h0 + 268)), (1, .int (xJ v1)), (2, .int (xJ v2)), (3, .int (xJ v3)), (4, .int (xJ v4)), (5, .int (xJ v5))] := hl
  obtain ⟨Q, eQ⟩ : ∃ Q, Q = MQ below (xQi D g h0 (fun r τ => xFr (fun k => k = 268 ∨ k = 276) s0 τ ∧ (r = 20))) args s 0 0 (xA h0) := ⟨_, rfl⟩
  rw [← eQ]
  generalize hHe : ([] : List Loc) = locs at hW ⊢
  obtain ⟨H, eH⟩ : ∃ H, H = s.heap := ⟨_, rfl⟩
  rw [← eH] at hW ⊢
  have hF : xFr (fun k => k = 268 ∨ k = 276) s0 s0 := xFr.rf
  refine x_aload_n hx hb hl 0 rfl dX11_feed_0 rfl ?_
  refine x_get (j := 8) (v := .int (xJ (s0 268 8))) hx hb hown hT hE hW cls_X11 (Or.inl (by decide)) (so_268 h0 g _) (by decide) rfl wq1193 dX11_feed_1 ?_
  refine x_rd hW (fun x1 ex1 rx1 => ?_)
  have fx1 : x1 = 0 := by rw [ex1, p0]
  refine x_bipush hx hb dX11_feed_4 (by decide) ?_
  refine x_iadd hx hb dX11_feed_6 ?_
  refine x_sipush hx hb dX11_feed_7 (by decide) ?_
  refine x_icmp_le (tgt := 15) hx hb (by omega) (by decide) dX11_feed_10 (by decide) (fun c2 => ?_) (fun c2 => False.elim (by omega))
  refine x_aload_n hx hb hl 0 rfl dX11_feed_15 rfl ?_
  refine x_iload_n hx hb hl 1 rfl dX11_feed_16 rfl ?_
  refine x_gov (x_runV (As := [.int (xJ v1)]) hx hb hml hown hT hE hW hl.1 (Or.inl (by decide)) (so_268 h0 g _) rfl cf_X11_types wq1376 wq104 wq1374 (c_X11_types l D g T h0 s0 hW.2.1 v1 rv1 0 (by omega) p0) ⟨rfl, rfl, ⟨by decide, by decide⟩, ⟨by decide, by decide⟩⟩ rfl rfl (Nat.le_of_ble_eq_true rfl) dX11_feed_17) hW (fun s4 H locs hp5 hW => ?_)
  obtain ⟨fs4, hp5⟩ := hp5
  have hF6 := hF.call fs4 (fun k h => by omega)
  have ghp5 := hp5.2
  refine x_aload_n hx hb hl 0 rfl dX11_feed_20 rfl ?_
  refine x_iload_n hx hb hl 2 rfl dX11_feed_21 rfl ?_
  refine x_gov (x_runV (As := [.int (xJ v2)]) hx hb hml hown hT hE hW hl.1 (Or.inl (by decide)) (so_268 h0 g _) rfl cf_X11_types wq1376 wq104 wq1374 (c_X11_types l D g T h0 s4 hW.2.1 v2 rv2 (0 + 4) (by omega) hp5.1.1) ⟨rfl, rfl, ⟨by decide, by decide⟩, ⟨by decide, by decide⟩⟩ rfl rfl (Nat.le_of_ble_eq_true rfl) dX11_feed_22) hW (fun s8 H locs hp9 hW => ?_)
  obtain ⟨fs8, hp9⟩ := hp9
  have hF10 := hF6.call fs8 (fun k h => by omega)
  have ghp9 := hp9.2
  refine x_aload_n hx hb hl 0 rfl dX11_feed_25 rfl ?_
  refine x_iload_n hx hb hl 3 rfl dX11_feed_26 rfl ?_
  refine x_gov (x_runV (As := [.int (xJ v3)]) hx hb hml hown hT hE hW hl.1 (Or.inl (by decide)) (so_268 h0 g _) rfl cf_X11_types wq1376 wq104 wq1374 (c_X11_types l D g T h0 s8 hW.2.1 v3 rv3 ((0 + 4) + 4) (by omega) hp9.1.1) ⟨rfl, rfl, ⟨by decide, by decide⟩, ⟨by decide, by decide⟩⟩ rfl rfl (Nat.le_of_ble_eq_true rfl) dX11_feed_27) hW (fun s12 H locs hp13 hW => ?_)
  obtain ⟨fs12, hp13⟩ := hp13
  have hF14 := hF10.call fs12 (fun k h => by omega)
  have ghp13 := hp13.2
  refine x_aload_n hx hb hl 0 rfl dX11_feed_30 rfl ?_
  refine x_iload hx hb hl 4 rfl dX11_feed_31 ?_
  refine x_gov (x_runV (As := [.int (xJ v4)]) hx hb hml hown hT hE hW hl.1 (Or.inl (by decide)) (so_268 h0 g _) rfl cf_X11_types wq1376 wq104 wq1374 (c_X11_types l D g T h0 s12 hW.2.1 v4 rv4 (((0 + 4) + 4) + 4) (by omega) hp13.1.1) ⟨rfl, rfl, ⟨by decide, by decide⟩, ⟨by decide, by decide⟩⟩ rfl rfl (Nat.le_of_ble_eq_true rfl) dX11_feed_33) hW (fun s16 H locs hp17 hW => ?_)
  obtain ⟨fs16, hp17⟩ := hp17
  have hF18 := hF14.call fs16 (fun k h => by omega)
  have ghp17 := hp17.2
  refine x_aload_n hx hb hl 0 rfl dX11_feed_36 rfl ?_
  refine x_iload hx hb hl 5 rfl dX11_feed_37 ?_
  refine x_gov (x_runV (As := [.int (xJ v5)]) hx hb hml hown hT hE hW hl.1 (Or.inl (by decide)) (so_268 h0 g _) rfl cf_X11_types wq1376 wq104 wq1374 (c_X11_types l D g T h0 s16 hW.2.1 v5 rv5 ((((0 + 4) + 4) + 4) + 4) (by omega) hp17.1.1) ⟨rfl, rfl, ⟨by decide, by decide⟩, ⟨by decide, by decide⟩⟩ rfl rfl (Nat.le_of_ble_eq_true rfl) dX11_feed_39) hW (fun s20 H locs hp21 hW => ?_)
  obtain ⟨fs20, hp21⟩ := hp21
  have hF22 := hF18.call fs20 (fun k h => by omega)
  have ghp21 := hp21.2
  refine x_aload_n hx hb hl 0 rfl dX11_feed_42 rfl ?_
  refine x_get (j := 8) (v := .int (xJ (s20 268 8))) hx hb hown hT hE hW cls_X11 (Or.inl (by decide)) (so_268 h0 g _) (by decide) rfl wq1193 dX11_feed_43 ?_
  refine x_rd hW (fun x23 ex23 rx23 => ?_)
  have fx23 : x23 = (((((0 + 4) + 4) + 4) + 4) + 4) := by rw [ex23, hp21.1.1]
  rw [eQ]
  exact x_iret hx hb hr hlk hW rx23 ⟨hF22, by omega⟩ dX11_feed_46
set_option maxHeartbeats 4000000 in
set_option maxRecDepth 100000 in
theorem c_X11_judge (l : Launch) (D : va_G) (g : xG) (T : Nat × Nat × Nat) (h0 : Nat) (s0 : xS) (hσ : xRR s0) (j : Int) (rj : xR j) (x : Int) (rx : xR x) (y : Int) (ry : xR y) (p0 : s0 269 34 = 0) (p1 : s0 272 = fun _ => 0) : Met l yX11_judge (xws yX11_judge cX11_judge 4 (some .boolean)) { frames := 2, cells := 0, slots := 0, locals := 43 } (xP [.ref (h0 + 268), .int (xJ j), .int (xJ x), .int (xJ y)] D g T h0 s0) (xQi D g h0 (fun r τ => xFr (fun k => k = 269) s0 τ ∧ ((r = 1 ∧ 0 ≤ j ∧ j < 2 ∧ 0 ≤ x ∧ x < 10 ∧ 0 ≤ y ∧ y < 10) ∨ (r = 0 ∧ ¬ (0 ≤ j ∧ j < 2 ∧ 0 ≤ x ∧ x < 10 ∧ 0 ≤ y ∧ y < 10))))) 0 0 (xA h0) := by
  refine x_met hσ (by decide) (Nat.le_of_ble_eq_true rfl) ?_
  intro p e s m args below meth c hx hb hr hml hown hT hlk hnm hE hW ls hl
  have hl : lv_has ls 4 [(0, .ref (h0 + 268)), (1, .int (xJ j)), (2, .int (xJ x)), (3, .int (xJ y))] := hl
  obtain ⟨Q, eQ⟩ : ∃ Q, Q = MQ below (xQi D g h0 (fun r τ => xFr (fun k => k = 269) s0 τ ∧ ((r = 1 ∧ 0 ≤ j ∧ j < 2 ∧ 0 ≤ x ∧ x < 10 ∧ 0 ≤ y ∧ y < 10) ∨ (r = 0 ∧ ¬ (0 ≤ j ∧ j < 2 ∧ 0 ≤ x ∧ x < 10 ∧ 0 ≤ y ∧ y < 10))))) args s 0 0 (xA h0) := ⟨_, rfl⟩
  rw [← eQ]
  generalize hHe : ([] : List Loc) = locs at hW ⊢
  obtain ⟨H, eH⟩ : ∃ H, H = s.heap := ⟨_, rfl⟩
  rw [← eH] at hW ⊢
  have hF : xFr (fun k => k = 269) s0 s0 := xFr.rf
  refine x_iload_n hx hb hl 1 rfl dX11_judge_0 rfl ?_
  refine x_iconst hx hb dX11_judge_1 ?_
  refine x_goi (x_runS (As := [.int (xJ j), .int (xJ 2)]) hx hb hml hown hT hE hW hl.1 cf_X11_isFive wq1412 wq1411 (c_X11_isFive l D g T h0 s0 hW.2.1 j rj 2 (by decide)) ⟨rfl, rfl, ⟨by decide, by decide⟩, ⟨by decide, by decide⟩⟩ rfl rfl (Nat.le_of_ble_eq_true rfl) dX11_judge_2) hW (fun x1 s2 H locs rx1 hp3 hW => ?_)
  obtain ⟨es2, hp3⟩ := hp3
  subst es2
  have ghp3 := hp3
  refine x_if_eq (tgt := 29) hx hb rx1 dX11_judge_5 (by decide) (fun c4 => ?_) (fun c4 => ?_)
  · skip
    refine x_iconst hx hb dX11_judge_29 ?_
    rw [eQ]
    exact x_zret hx hb hr hlk hW (by omega) ⟨hF, by omega⟩ dX11_judge_30
  refine x_iload_n hx hb hl 2 rfl dX11_judge_8 rfl ?_
  refine x_iload_n hx hb hl 3 rfl dX11_judge_9 rfl ?_
  refine x_goi (x_runS (As := [.int (xJ x), .int (xJ y)]) hx hb hml hown hT hE hW hl.1 cf_X11_isOn wq1430 wq1429 (c_X11_isOn l D g T h0 s0 hW.2.1 x rx y ry) ⟨rfl, rfl, ⟨by decide, by decide⟩, ⟨by decide, by decide⟩⟩ rfl rfl (Nat.le_of_ble_eq_true rfl) dX11_judge_10) hW (fun x5 s6 H locs rx5 hp7 hW => ?_)
  obtain ⟨es6, hp7⟩ := hp7
  subst es6
  have ghp7 := hp7
  refine x_if_eq (tgt := 29) hx hb rx5 dX11_judge_13 (by decide) (fun c8 => ?_) (fun c8 => ?_)
  · skip
    refine x_iconst hx hb dX11_judge_29 ?_
    rw [eQ]
    exact x_zret hx hb hr hlk hW (by omega) ⟨hF, by omega⟩ dX11_judge_30
  refine x_aload_n hx hb hl 0 rfl dX11_judge_16 rfl ?_
  refine x_bipush hx hb dX11_judge_17 (by decide) ?_
  refine x_iload_n hx hb hl 3 rfl dX11_judge_19 rfl ?_
  refine x_imul hx hb dX11_judge_20 ?_
  refine x_iload_n hx hb hl 2 rfl dX11_judge_21 rfl ?_
  refine x_iadd hx hb dX11_judge_22 ?_
  refine x_goi (x_runV (As := [.int (xJ ((10 * y) + x))]) hx hb hml hown hT hE hW hl.1 (Or.inl (by decide)) (so_268 h0 g _) rfl cf_X11_isGround wq1419 wq110 wq1417 (c_X11_isGround l D g T h0 s0 hW.2.1 ((10 * y) + x) (by omega) (by omega) p1) ⟨rfl, rfl, ⟨by decide, by decide⟩, ⟨by decide, by decide⟩⟩ rfl rfl (Nat.le_of_ble_eq_true rfl) dX11_judge_23) hW (fun x9 s10 H locs rx9 hp11 hW => ?_)
  obtain ⟨es10, hp11⟩ := hp11
  subst es10
  have ghp11 := hp11
  refine x_if_ne (tgt := 31) hx hb rx9 dX11_judge_26 (by decide) (fun c12 => ?_) (fun c12 => False.elim (by omega))
  refine x_aload_n hx hb hl 0 rfl dX11_judge_31 rfl ?_
  refine x_iconst hx hb dX11_judge_32 ?_
  refine x_iload_n hx hb hl 1 rfl dX11_judge_33 rfl ?_
  refine x_isub hx hb dX11_judge_34 ?_
  refine x_goi (x_runV (As := [.int (xJ (1 - j))]) hx hb hml hown hT hE hW hl.1 (Or.inl (by decide)) (so_268 h0 g _) rfl cf_X11_isJudge wq1409 wq109 wq1407 (c_X11_isJudge l D g T h0 s0 hW.2.1 (1 - j) (by omega) p0) ⟨rfl, rfl, ⟨by decide, by decide⟩, ⟨by decide, by decide⟩⟩ rfl rfl (Nat.le_of_ble_eq_true rfl) dX11_judge_35) hW (fun x13 s14 H locs rx13 hp15 hW => ?_)
  obtain ⟨es14, hp15⟩ := hp15
  subst es14
  have ghp15 := hp15
  refine x_if_eq (tgt := 60) hx hb rx13 dX11_judge_38 (by decide) (fun c16 => ?_) (fun c16 => False.elim (by omega))
  refine x_aload_n hx hb hl 0 rfl dX11_judge_60 rfl ?_
  refine x_get (j := 0) (v := .ref (h0 + 269)) hx hb hown hT hE hW cls_X11 (Or.inl (by decide)) (so_268 h0 g _) (by decide) rfl wq1185 dX11_judge_61 ?_
  refine x_bipush hx hb dX11_judge_64 (by decide) ?_
  refine x_aload_n hx hb hl 0 rfl dX11_judge_66 rfl ?_
  refine x_get (j := 0) (v := .ref (h0 + 269)) hx hb hown hT hE hW cls_X11 (Or.inl (by decide)) (so_268 h0 g _) (by decide) rfl wq1185 dX11_judge_67 ?_
  refine x_bipush hx hb dX11_judge_70 (by decide) ?_
  refine x_iald hx hb hE hW (Or.inl (by decide)) (sa_269 h0 g _) ⟨by decide, by decide⟩ (by decide) dX11_judge_72 ?_
  refine x_rd hW (fun x17 ex17 rx17 => ?_)
  have fx17 : x17 = 0 := by rw [ex17, p0]
  refine x_iconst hx hb dX11_judge_73 ?_
  refine x_iload_n hx hb hl 1 rfl dX11_judge_74 rfl ?_
  refine lv_ishl hx hb dX11_judge_75 ?_
  refine x_any (fun x18 rx18 => ?_)
  refine lv_ior hx hb dX11_judge_76 ?_
  refine x_any (fun x19 rx19 => ?_)
  refine x_iast hx hb hE hW (by decide) (fun σ => sa_269 h0 g σ) ⟨by decide, by decide⟩ (by decide) rx19 dX11_judge_77 (fun H locs s20 es20 hW => ?_)
  have q21 : s20 269 34 = x19 := by rw [es20, xU_s]
  have q22 : s20 272 = fun _ => 0 := by rw [es20, xU_k _ _ _ (by omega)]; exact p1
  have hF23 := hF.put es20 (by omega)
  refine x_aload_n hx hb hl 0 rfl dX11_judge_78 rfl ?_
  refine x_get (j := 0) (v := .ref (h0 + 269)) hx hb hown hT hE hW cls_X11 (Or.inl (by decide)) (so_268 h0 g _) (by decide) rfl wq1185 dX11_judge_79 ?_
  refine x_iconst hx hb dX11_judge_82 ?_
  refine x_iload_n hx hb hl 1 rfl dX11_judge_83 rfl ?_
  refine x_iadd hx hb dX11_judge_84 ?_
  refine x_bipush hx hb dX11_judge_85 (by decide) ?_
  refine x_iload_n hx hb hl 3 rfl dX11_judge_87 rfl ?_
  refine x_imul hx hb dX11_judge_88 ?_
  refine x_iload_n hx hb hl 2 rfl dX11_judge_89 rfl ?_
  refine x_iadd hx hb dX11_judge_90 ?_
  refine x_iast hx hb hE hW (by decide) (fun σ => sa_269 h0 g σ) (by omega) (by decide) (by omega) dX11_judge_91 (fun H locs s24 es24 hW => ?_)
  have q25 : s24 272 = fun _ => 0 := by rw [es24, xU_k _ _ _ (by omega)]; exact q22
  have hF26 := hF23.put es24 (by omega)
  refine x_iconst hx hb dX11_judge_92 ?_
  rw [eQ]
  exact x_zret hx hb hr hlk hW (by omega) ⟨hF26, by omega⟩ dX11_judge_93
set_option maxHeartbeats 4000000 in
set_option maxRecDepth 100000 in
theorem c_X11_felon (l : Launch) (D : va_G) (g : xG) (T : Nat × Nat × Nat) (h0 : Nat) (s0 : xS) (hσ : xRR s0) (f : Int) (rf : xR f) (x : Int) (rx : xR x) (y : Int) (ry : xR y) (w : Int) (rw : xR w) (p0 : s0 272 = fun _ => 0) : Met l yX11_felon (xws yX11_felon cX11_felon 5 (some .boolean)) { frames := 2, cells := 0, slots := 0, locals := 43 } (xP [.ref (h0 + 268), .int (xJ f), .int (xJ x), .int (xJ y), .int (xJ w)] D g T h0 s0) (xQi D g h0 (fun r τ => xFr (fun k => k = 269) s0 τ ∧ ((r = 1 ∧ 0 ≤ f ∧ f < 10 ∧ 0 ≤ x ∧ x < 10 ∧ 0 ≤ y ∧ y < 10 ∧ 0 ≤ w ∧ w ≤ 999) ∨ (r = 0 ∧ ¬ (0 ≤ f ∧ f < 10 ∧ 0 ≤ x ∧ x < 10 ∧ 0 ≤ y ∧ y < 10 ∧ 0 ≤ w ∧ w ≤ 999))))) 0 0 (xA h0) := by
  refine x_met hσ (by decide) (Nat.le_of_ble_eq_true rfl) ?_
  intro p e s m args below meth c hx hb hr hml hown hT hlk hnm hE hW ls hl
  have hl : lv_has ls 5 [(0, .ref (h0 + 268)), (1, .int (xJ f)), (2, .int (xJ x)), (3, .int (xJ y)), (4, .int (xJ w))] := hl
  obtain ⟨Q, eQ⟩ : ∃ Q, Q = MQ below (xQi D g h0 (fun r τ => xFr (fun k => k = 269) s0 τ ∧ ((r = 1 ∧ 0 ≤ f ∧ f < 10 ∧ 0 ≤ x ∧ x < 10 ∧ 0 ≤ y ∧ y < 10 ∧ 0 ≤ w ∧ w ≤ 999) ∨ (r = 0 ∧ ¬ (0 ≤ f ∧ f < 10 ∧ 0 ≤ x ∧ x < 10 ∧ 0 ≤ y ∧ y < 10 ∧ 0 ≤ w ∧ w ≤ 999))))) args s 0 0 (xA h0) := ⟨_, rfl⟩
  rw [← eQ]
  generalize hHe : ([] : List Loc) = locs at hW ⊢
  obtain ⟨H, eH⟩ : ∃ H, H = s.heap := ⟨_, rfl⟩
  rw [← eH] at hW ⊢
  have hF : xFr (fun k => k = 269) s0 s0 := xFr.rf
  refine x_iload_n hx hb hl 1 rfl dX11_felon_0 rfl ?_
  refine x_bipush hx hb dX11_felon_1 (by decide) ?_
  refine x_goi (x_runS (As := [.int (xJ f), .int (xJ 10)]) hx hb hml hown hT hE hW hl.1 cf_X11_isFive wq1412 wq1411 (c_X11_isFive l D g T h0 s0 hW.2.1 f rf 10 (by decide)) ⟨rfl, rfl, ⟨by decide, by decide⟩, ⟨by decide, by decide⟩⟩ rfl rfl (Nat.le_of_ble_eq_true rfl) dX11_felon_3) hW (fun x1 s2 H locs rx1 hp3 hW => ?_)
  obtain ⟨es2, hp3⟩ := hp3
  subst es2
  have ghp3 := hp3
  refine x_if_eq (tgt := 42) hx hb rx1 dX11_felon_6 (by decide) (fun c4 => ?_) (fun c4 => ?_)
  · skip
    refine x_iconst hx hb dX11_felon_42 ?_
    rw [eQ]
    exact x_zret hx hb hr hlk hW (by omega) ⟨hF, by omega⟩ dX11_felon_43
  refine x_iload_n hx hb hl 2 rfl dX11_felon_9 rfl ?_
  refine x_iload_n hx hb hl 3 rfl dX11_felon_10 rfl ?_
  refine x_goi (x_runS (As := [.int (xJ x), .int (xJ y)]) hx hb hml hown hT hE hW hl.1 cf_X11_isOn wq1430 wq1429 (c_X11_isOn l D g T h0 s0 hW.2.1 x rx y ry) ⟨rfl, rfl, ⟨by decide, by decide⟩, ⟨by decide, by decide⟩⟩ rfl rfl (Nat.le_of_ble_eq_true rfl) dX11_felon_11) hW (fun x5 s6 H locs rx5 hp7 hW => ?_)
  obtain ⟨es6, hp7⟩ := hp7
  subst es6
  have ghp7 := hp7
  refine x_if_eq (tgt := 42) hx hb rx5 dX11_felon_14 (by decide) (fun c8 => ?_) (fun c8 => ?_)
  · skip
    refine x_iconst hx hb dX11_felon_42 ?_
    rw [eQ]
    exact x_zret hx hb hr hlk hW (by omega) ⟨hF, by omega⟩ dX11_felon_43
  refine x_aload_n hx hb hl 0 rfl dX11_felon_17 rfl ?_
  refine x_bipush hx hb dX11_felon_18 (by decide) ?_
  refine x_iload_n hx hb hl 3 rfl dX11_felon_20 rfl ?_
  refine x_imul hx hb dX11_felon_21 ?_
  refine x_iload_n hx hb hl 2 rfl dX11_felon_22 rfl ?_
  refine x_iadd hx hb dX11_felon_23 ?_
  refine x_goi (x_runV (As := [.int (xJ ((10 * y) + x))]) hx hb hml hown hT hE hW hl.1 (Or.inl (by decide)) (so_268 h0 g _) rfl cf_X11_isGround wq1419 wq110 wq1417 (c_X11_isGround l D g T h0 s0 hW.2.1 ((10 * y) + x) (by omega) (by omega) p0) ⟨rfl, rfl, ⟨by decide, by decide⟩, ⟨by decide, by decide⟩⟩ rfl rfl (Nat.le_of_ble_eq_true rfl) dX11_felon_24) hW (fun x9 s10 H locs rx9 hp11 hW => ?_)
  obtain ⟨es10, hp11⟩ := hp11
  subst es10
  have ghp11 := hp11
  refine x_if_eq (tgt := 42) hx hb rx9 dX11_felon_27 (by decide) (fun c12 => ?_) (fun c12 => ?_)
  · skip
    refine x_iconst hx hb dX11_felon_42 ?_
    rw [eQ]
    exact x_zret hx hb hr hlk hW (by omega) ⟨hF, by omega⟩ dX11_felon_43
  refine x_iload hx hb hl 4 rfl dX11_felon_30 ?_
  refine x_iconst hx hb dX11_felon_32 ?_
  refine x_sipush hx hb dX11_felon_33 (by decide) ?_
  refine x_goi (x_runS (As := [.int (xJ w), .int (xJ 0), .int (xJ 999)]) hx hb hml hown hT hE hW hl.1 cf_X11_in wq1383 wq1382 (c_X11_in l D g T h0 s0 hW.2.1 w rw 0 (by decide) 999 (by decide)) ⟨rfl, rfl, ⟨by decide, by decide⟩, ⟨by decide, by decide⟩⟩ rfl rfl (Nat.le_of_ble_eq_true rfl) dX11_felon_36) hW (fun x13 s14 H locs rx13 hp15 hW => ?_)
  obtain ⟨es14, hp15⟩ := hp15
  subst es14
  have ghp15 := hp15
  refine x_if_ne (tgt := 44) hx hb rx13 dX11_felon_39 (by decide) (fun c16 => ?_) (fun c16 => ?_)
  · skip
    refine x_aload_n hx hb hl 0 rfl dX11_felon_44 rfl ?_
    refine x_get (j := 0) (v := .ref (h0 + 269)) hx hb hown hT hE hW cls_X11 (Or.inl (by decide)) (so_268 h0 g _) (by decide) rfl wq1185 dX11_felon_45 ?_
    refine x_bipush hx hb dX11_felon_48 (by decide) ?_
    refine x_aload_n hx hb hl 0 rfl dX11_felon_50 rfl ?_
    refine x_get (j := 0) (v := .ref (h0 + 269)) hx hb hown hT hE hW cls_X11 (Or.inl (by decide)) (so_268 h0 g _) (by decide) rfl wq1185 dX11_felon_51 ?_
    refine x_bipush hx hb dX11_felon_54 (by decide) ?_
    refine x_iald hx hb hE hW (Or.inl (by decide)) (sa_269 h0 g _) ⟨by decide, by decide⟩ (by decide) dX11_felon_56 ?_
    refine x_rd hW (fun x17 ex17 rx17 => ?_)
    refine x_iconst hx hb dX11_felon_57 ?_
    refine x_iload_n hx hb hl 1 rfl dX11_felon_58 rfl ?_
    refine lv_ishl hx hb dX11_felon_59 ?_
    refine x_any (fun x18 rx18 => ?_)
    refine lv_ior hx hb dX11_felon_60 ?_
    refine x_any (fun x19 rx19 => ?_)
    refine x_iast hx hb hE hW (by decide) (fun σ => sa_269 h0 g σ) ⟨by decide, by decide⟩ (by decide) rx19 dX11_felon_61 (fun H locs s20 es20 hW => ?_)
    have q21 : s20 272 = fun _ => 0 := by rw [es20, xU_k _ _ _ (by omega)]; exact p0
    have hF22 := hF.put es20 (by omega)
    refine x_aload_n hx hb hl 0 rfl dX11_felon_62 rfl ?_
    refine x_get (j := 0) (v := .ref (h0 + 269)) hx hb hown hT hE hW cls_X11 (Or.inl (by decide)) (so_268 h0 g _) (by decide) rfl wq1185 dX11_felon_63 ?_
    refine x_bipush hx hb dX11_felon_66 (by decide) ?_
    refine x_aload_n hx hb hl 0 rfl dX11_felon_68 rfl ?_
    refine x_get (j := 0) (v := .ref (h0 + 269)) hx hb hown hT hE hW cls_X11 (Or.inl (by decide)) (so_268 h0 g _) (by decide) rfl wq1185 dX11_felon_69 ?_
    refine x_bipush hx hb dX11_felon_72 (by decide) ?_
    refine x_iald hx hb hE hW (Or.inl (by decide)) (sa_269 h0 g _) ⟨by decide, by decide⟩ (by decide) dX11_felon_74 ?_
    refine x_rd hW (fun x23 ex23 rx23 => ?_)
    refine x_iconst hx hb dX11_felon_75 ?_
    refine x_iload_n hx hb hl 1 rfl dX11_felon_76 rfl ?_
    refine lv_ishl hx hb dX11_felon_77 ?_
    refine x_any (fun x24 rx24 => ?_)
    refine x_iconst hx hb dX11_felon_78 ?_
    refine lv_ixor hx hb dX11_felon_79 ?_
    refine x_any (fun x25 rx25 => ?_)
    refine lv_iand hx hb dX11_felon_80 ?_
    refine x_any (fun x26 rx26 => ?_)
    refine x_iast hx hb hE hW (by decide) (fun σ => sa_269 h0 g σ) ⟨by decide, by decide⟩ (by decide) rx26 dX11_felon_81 (fun H locs s27 es27 hW => ?_)
    have q28 : s27 272 = fun _ => 0 := by rw [es27, xU_k _ _ _ (by omega)]; exact q21
    have hF29 := hF22.put es27 (by omega)
    refine x_aload_n hx hb hl 0 rfl dX11_felon_82 rfl ?_
    refine x_get (j := 0) (v := .ref (h0 + 269)) hx hb hown hT hE hW cls_X11 (Or.inl (by decide)) (so_268 h0 g _) (by decide) rfl wq1185 dX11_felon_83 ?_
    refine x_iconst hx hb dX11_felon_86 ?_
    refine x_iload_n hx hb hl 1 rfl dX11_felon_87 rfl ?_
    refine x_iadd hx hb dX11_felon_88 ?_
    refine x_bipush hx hb dX11_felon_89 (by decide) ?_
    refine x_iload_n hx hb hl 3 rfl dX11_felon_91 rfl ?_
    refine x_imul hx hb dX11_felon_92 ?_
    refine x_iload_n hx hb hl 2 rfl dX11_felon_93 rfl ?_
    refine x_iadd hx hb dX11_felon_94 ?_
    refine x_iast hx hb hE hW (by decide) (fun σ => sa_269 h0 g σ) (by omega) (by decide) (by omega) dX11_felon_95 (fun H locs s30 es30 hW => ?_)
    have q31 : s30 272 = fun _ => 0 := by rw [es30, xU_k _ _ _ (by omega)]; exact q28
    have hF32 := hF29.put es30 (by omega)
    refine x_aload_n hx hb hl 0 rfl dX11_felon_96 rfl ?_
    refine x_get (j := 0) (v := .ref (h0 + 269)) hx hb hown hT hE hW cls_X11 (Or.inl (by decide)) (so_268 h0 g _) (by decide) rfl wq1185 dX11_felon_97 ?_
    refine x_bipush hx hb dX11_felon_100 (by decide) ?_
    refine x_iload_n hx hb hl 1 rfl dX11_felon_102 rfl ?_
    refine x_iadd hx hb dX11_felon_103 ?_
    refine x_iload hx hb hl 4 rfl dX11_felon_104 ?_
    refine x_iast hx hb hE hW (by decide) (fun σ => sa_269 h0 g σ) (by omega) (by decide) rw dX11_felon_106 (fun H locs s33 es33 hW => ?_)
    have q34 : s33 272 = fun _ => 0 := by rw [es33, xU_k _ _ _ (by omega)]; exact q31
    have hF35 := hF32.put es33 (by omega)
    refine x_aload_n hx hb hl 0 rfl dX11_felon_107 rfl ?_
    refine x_get (j := 0) (v := .ref (h0 + 269)) hx hb hown hT hE hW cls_X11 (Or.inl (by decide)) (so_268 h0 g _) (by decide) rfl wq1185 dX11_felon_108 ?_
    refine x_bipush hx hb dX11_felon_111 (by decide) ?_
    refine x_iload_n hx hb hl 1 rfl dX11_felon_113 rfl ?_
    refine x_iadd hx hb dX11_felon_114 ?_
    refine x_iconst hx hb dX11_felon_115 ?_
    refine x_iast hx hb hE hW (by decide) (fun σ => sa_269 h0 g σ) (by omega) (by decide) (by decide) dX11_felon_116 (fun H locs s36 es36 hW => ?_)
    have q37 : s36 272 = fun _ => 0 := by rw [es36, xU_k _ _ _ (by omega)]; exact q34
    have hF38 := hF35.put es36 (by omega)
    refine x_iconst hx hb dX11_felon_117 ?_
    rw [eQ]
    exact x_zret hx hb hr hlk hW (by omega) ⟨hF38, by omega⟩ dX11_felon_118
  refine x_iconst hx hb dX11_felon_42 ?_
  rw [eQ]
  exact x_zret hx hb hr hlk hW (by omega) ⟨hF, by omega⟩ dX11_felon_43
set_option maxHeartbeats 4000000 in
set_option maxRecDepth 100000 in
theorem c_X11_lamp (l : Launch) (D : va_G) (g : xG) (T : Nat × Nat × Nat) (h0 : Nat) (s0 : xS) (hσ : xRR s0) (i : Int) (ri : xR i) (x : Int) (rx : xR x) (y : Int) (ry : xR y) (p0 : s0 272 = fun _ => 0) : Met l yX11_lamp (xws yX11_lamp cX11_lamp 4 (some .boolean)) { frames := 2, cells := 0, slots := 0, locals := 43 } (xP [.ref (h0 + 268), .int (xJ i), .int (xJ x), .int (xJ y)] D g T h0 s0) (xQi D g h0 (fun r τ => xFr (fun k => k = 273) s0 τ ∧ ((r = 1 ∧ 0 ≤ i ∧ i < 4 ∧ (x = -1 ∨ (0 ≤ x ∧ x < 10 ∧ 0 ≤ y ∧ y < 10))) ∨ (r = 0 ∧ ¬ (0 ≤ i ∧ i < 4 ∧ (x = -1 ∨ (0 ≤ x ∧ x < 10 ∧ 0 ≤ y ∧ y < 10))))))) 0 0 (xA h0) := by
  refine x_met hσ (by decide) (Nat.le_of_ble_eq_true rfl) ?_
  intro p e s m args below meth c hx hb hr hml hown hT hlk hnm hE hW ls hl
  have hl : lv_has ls 4 [(0, .ref (h0 + 268)), (1, .int (xJ i)), (2, .int (xJ x)), (3, .int (xJ y))] := hl
  obtain ⟨Q, eQ⟩ : ∃ Q, Q = MQ below (xQi D g h0 (fun r τ => xFr (fun k => k = 273) s0 τ ∧ ((r = 1 ∧ 0 ≤ i ∧ i < 4 ∧ (x = -1 ∨ (0 ≤ x ∧ x < 10 ∧ 0 ≤ y ∧ y < 10))) ∨ (r = 0 ∧ ¬ (0 ≤ i ∧ i < 4 ∧ (x = -1 ∨ (0 ≤ x ∧ x < 10 ∧ 0 ≤ y ∧ y < 10))))))) args s 0 0 (xA h0) := ⟨_, rfl⟩
  rw [← eQ]
  generalize hHe : ([] : List Loc) = locs at hW ⊢
  obtain ⟨H, eH⟩ : ∃ H, H = s.heap := ⟨_, rfl⟩
  rw [← eH] at hW ⊢
  have hF : xFr (fun k => k = 273) s0 s0 := xFr.rf
  refine x_iload_n hx hb hl 1 rfl dX11_lamp_0 rfl ?_
  refine x_iconst hx hb dX11_lamp_1 ?_
  refine x_goi (x_runS (As := [.int (xJ i), .int (xJ 4)]) hx hb hml hown hT hE hW hl.1 cf_X11_isFive wq1412 wq1411 (c_X11_isFive l D g T h0 s0 hW.2.1 i ri 4 (by decide)) ⟨rfl, rfl, ⟨by decide, by decide⟩, ⟨by decide, by decide⟩⟩ rfl rfl (Nat.le_of_ble_eq_true rfl) dX11_lamp_2) hW (fun x1 s2 H locs rx1 hp3 hW => ?_)
  obtain ⟨es2, hp3⟩ := hp3
  subst es2
  have ghp3 := hp3
  refine x_if_ne (tgt := 10) hx hb rx1 dX11_lamp_5 (by decide) (fun c4 => ?_) (fun c4 => ?_)
  · skip
    refine x_iload_n hx hb hl 2 rfl dX11_lamp_10 rfl ?_
    refine x_iconst hx hb dX11_lamp_11 ?_
    refine x_icmp_eq (tgt := 38) hx hb rx (by decide) dX11_lamp_12 (by decide) (fun c5 => ?_) (fun c5 => ?_)
    · skip
      refine x_aload_n hx hb hl 0 rfl dX11_lamp_38 rfl ?_
      refine x_get (j := 4) (v := .ref (h0 + 273)) hx hb hown hT hE hW cls_X11 (Or.inl (by decide)) (so_268 h0 g _) (by decide) rfl wq1189 dX11_lamp_39 ?_
      refine x_iload_n hx hb hl 1 rfl dX11_lamp_42 rfl ?_
      refine x_iload_n hx hb hl 2 rfl dX11_lamp_43 rfl ?_
      refine x_iconst hx hb dX11_lamp_44 ?_
      refine x_icmp_ne (tgt := 52) hx hb rx (by decide) dX11_lamp_45 (by decide) (fun c6 => ?_) (fun c6 => ?_)
      · skip
        refine x_bipush hx hb dX11_lamp_52 (by decide) ?_
        refine x_iload_n hx hb hl 3 rfl dX11_lamp_54 rfl ?_
        refine x_imul hx hb dX11_lamp_55 ?_
        refine x_iload_n hx hb hl 2 rfl dX11_lamp_56 rfl ?_
        refine x_iadd hx hb dX11_lamp_57 ?_
        refine x_iast hx hb hE hW (by decide) (fun σ => sa_273 h0 g σ) (by omega) (by decide) (by omega) dX11_lamp_58 (fun H locs s7 es7 hW => ?_)
        have q8 : s7 272 = fun _ => 0 := by rw [es7, xU_k _ _ _ (by omega)]; exact p0
        have hF9 := hF.put es7 (by omega)
        refine x_iconst hx hb dX11_lamp_59 ?_
        rw [eQ]
        exact x_zret hx hb hr hlk hW (by omega) ⟨hF9, by omega⟩ dX11_lamp_60
      refine x_iconst hx hb dX11_lamp_48 ?_
      refine lv_goto (tgt := 58) hx hb dX11_lamp_49 (by decide) ?_
      refine x_iast hx hb hE hW (by decide) (fun σ => sa_273 h0 g σ) (by omega) (by decide) (by decide) dX11_lamp_58 (fun H locs s10 es10 hW => ?_)
      have q11 : s10 272 = fun _ => 0 := by rw [es10, xU_k _ _ _ (by omega)]; exact p0
      have hF12 := hF.put es10 (by omega)
      refine x_iconst hx hb dX11_lamp_59 ?_
      rw [eQ]
      exact x_zret hx hb hr hlk hW (by omega) ⟨hF12, by omega⟩ dX11_lamp_60
    refine x_iload_n hx hb hl 2 rfl dX11_lamp_15 rfl ?_
    refine x_iload_n hx hb hl 3 rfl dX11_lamp_16 rfl ?_
    refine x_goi (x_runS (As := [.int (xJ x), .int (xJ y)]) hx hb hml hown hT hE hW hl.1 cf_X11_isOn wq1430 wq1429 (c_X11_isOn l D g T h0 s0 hW.2.1 x rx y ry) ⟨rfl, rfl, ⟨by decide, by decide⟩, ⟨by decide, by decide⟩⟩ rfl rfl (Nat.le_of_ble_eq_true rfl) dX11_lamp_17) hW (fun x13 s14 H locs rx13 hp15 hW => ?_)
    obtain ⟨es14, hp15⟩ := hp15
    subst es14
    have ghp15 := hp15
    refine x_if_eq (tgt := 36) hx hb rx13 dX11_lamp_20 (by decide) (fun c16 => ?_) (fun c16 => ?_)
    · skip
      refine x_iconst hx hb dX11_lamp_36 ?_
      rw [eQ]
      exact x_zret hx hb hr hlk hW (by omega) ⟨hF, by omega⟩ dX11_lamp_37
    refine x_aload_n hx hb hl 0 rfl dX11_lamp_23 rfl ?_
    refine x_bipush hx hb dX11_lamp_24 (by decide) ?_
    refine x_iload_n hx hb hl 3 rfl dX11_lamp_26 rfl ?_
    refine x_imul hx hb dX11_lamp_27 ?_
    refine x_iload_n hx hb hl 2 rfl dX11_lamp_28 rfl ?_
    refine x_iadd hx hb dX11_lamp_29 ?_
    refine x_goi (x_runV (As := [.int (xJ ((10 * y) + x))]) hx hb hml hown hT hE hW hl.1 (Or.inl (by decide)) (so_268 h0 g _) rfl cf_X11_isGround wq1419 wq110 wq1417 (c_X11_isGround l D g T h0 s0 hW.2.1 ((10 * y) + x) (by omega) (by omega) p0) ⟨rfl, rfl, ⟨by decide, by decide⟩, ⟨by decide, by decide⟩⟩ rfl rfl (Nat.le_of_ble_eq_true rfl) dX11_lamp_30) hW (fun x17 s18 H locs rx17 hp19 hW => ?_)
    obtain ⟨es18, hp19⟩ := hp19
    subst es18
    have ghp19 := hp19
    refine x_if_ne (tgt := 38) hx hb rx17 dX11_lamp_33 (by decide) (fun c20 => ?_) (fun c20 => ?_)
    · skip
      refine x_aload_n hx hb hl 0 rfl dX11_lamp_38 rfl ?_
      refine x_get (j := 4) (v := .ref (h0 + 273)) hx hb hown hT hE hW cls_X11 (Or.inl (by decide)) (so_268 h0 g _) (by decide) rfl wq1189 dX11_lamp_39 ?_
      refine x_iload_n hx hb hl 1 rfl dX11_lamp_42 rfl ?_
      refine x_iload_n hx hb hl 2 rfl dX11_lamp_43 rfl ?_
      refine x_iconst hx hb dX11_lamp_44 ?_
      refine x_icmp_ne (tgt := 52) hx hb rx (by decide) dX11_lamp_45 (by decide) (fun c21 => ?_) (fun c21 => ?_)
      · skip
        refine x_bipush hx hb dX11_lamp_52 (by decide) ?_
        refine x_iload_n hx hb hl 3 rfl dX11_lamp_54 rfl ?_
        refine x_imul hx hb dX11_lamp_55 ?_
        refine x_iload_n hx hb hl 2 rfl dX11_lamp_56 rfl ?_
        refine x_iadd hx hb dX11_lamp_57 ?_
        refine x_iast hx hb hE hW (by decide) (fun σ => sa_273 h0 g σ) (by omega) (by decide) (by omega) dX11_lamp_58 (fun H locs s22 es22 hW => ?_)
        have q23 : s22 272 = fun _ => 0 := by rw [es22, xU_k _ _ _ (by omega)]; exact p0
        have hF24 := hF.put es22 (by omega)
        refine x_iconst hx hb dX11_lamp_59 ?_
        rw [eQ]
        exact x_zret hx hb hr hlk hW (by omega) ⟨hF24, by omega⟩ dX11_lamp_60
      refine x_iconst hx hb dX11_lamp_48 ?_
      refine lv_goto (tgt := 58) hx hb dX11_lamp_49 (by decide) ?_
      refine x_iast hx hb hE hW (by decide) (fun σ => sa_273 h0 g σ) (by omega) (by decide) (by decide) dX11_lamp_58 (fun H locs s25 es25 hW => ?_)
      have q26 : s25 272 = fun _ => 0 := by rw [es25, xU_k _ _ _ (by omega)]; exact p0
      have hF27 := hF.put es25 (by omega)
      refine x_iconst hx hb dX11_lamp_59 ?_
      rw [eQ]
      exact x_zret hx hb hr hlk hW (by omega) ⟨hF27, by omega⟩ dX11_lamp_60
    refine x_iconst hx hb dX11_lamp_36 ?_
    rw [eQ]
    exact x_zret hx hb hr hlk hW (by omega) ⟨hF, by omega⟩ dX11_lamp_37
  refine x_iconst hx hb dX11_lamp_8 ?_
  rw [eQ]
  exact x_zret hx hb hr hlk hW (by omega) ⟨hF, by omega⟩ dX11_lamp_9
set_option maxHeartbeats 4000000 in
set_option maxRecDepth 100000 in
theorem c_X11_byLaw (l : Launch) (D : va_G) (g : xG) (T : Nat × Nat × Nat) (h0 : Nat) (s0 : xS) (hσ : xRR s0) (q : Int) (rq : xR q) (w : Int) (rw : xR w) (p0 : s0 268 17 = 0) : Met l yX11_byLaw (xws yX11_byLaw cX11_byLaw 5 (some .int)) { frames := 0, cells := 0, slots := 0, locals := 0 } (xP [.ref (h0 + 268), .int (xJ q), .int (xJ w)] D g T h0 s0) (xQi D g h0 (fun r τ => s0 = τ ∧ (r = 0))) 0 0 (xA h0) := by
  refine x_met hσ (by decide) (Nat.le_of_ble_eq_true rfl) ?_
  intro p e s m args below meth c hx hb hr hml hown hT hlk hnm hE hW ls hl
  have hl : lv_has ls 5 [(0, .ref (h0 + 268)), (1, .int (xJ q)), (2, .int (xJ w))] := hl
  obtain ⟨Q, eQ⟩ : ∃ Q, Q = MQ below (xQi D g h0 (fun r τ => s0 = τ ∧ (r = 0))) args s 0 0 (xA h0) := ⟨_, rfl⟩
  rw [← eQ]
  generalize hHe : ([] : List Loc) = locs at hW ⊢
  obtain ⟨H, eH⟩ : ∃ H, H = s.heap := ⟨_, rfl⟩
  rw [← eH] at hW ⊢
  refine x_iconst hx hb dX11_byLaw_0 ?_
  refine lv_istore_n (lv' := [(3, .int (xJ 0)), (0, .ref (h0 + 268)), (1, .int (xJ q)), (2, .int (xJ w))]) hx hb dX11_byLaw_1 rfl hl (by decide) rfl (fun ls hl => ?_)
  refine x_iload_n hx hb hl 0 rfl dX11_byLaw_2 rfl ?_
  refine x_aload_n hx hb hl 1 rfl dX11_byLaw_3 rfl ?_
  refine x_get (j := 17) (v := .int (xJ (s0 268 17))) hx hb hown hT hE hW cls_X11 (Or.inl (by decide)) (so_268 h0 g _) (by decide) rfl wq1202 dX11_byLaw_4 ?_
  refine x_rd hW (fun x1 ex1 rx1 => ?_)
  have fx1 : x1 = 0 := by rw [ex1, p0]
  refine x_icmp_ge (tgt := 89) hx hb (by decide) rx1 dX11_byLaw_7 (by decide) (fun c2 => ?_) (fun c2 => False.elim (by omega))
  refine x_iconst hx hb dX11_byLaw_89 ?_
  rw [eQ]
  exact x_iret hx hb hr hlk hW (by decide) ⟨rfl, by omega⟩ dX11_byLaw_90
set_option maxHeartbeats 4000000 in
set_option maxRecDepth 100000 in
theorem c_X11_feels (l : Launch) (D : va_G) (g : xG) (T : Nat × Nat × Nat) (h0 : Nat) (s0 : xS) (hσ : xRR s0) (t : Int) (rt : xR t) : Met l yX11_feels (xws yX11_feels cX11_feels 3 none) { frames := 0, cells := 0, slots := 0, locals := 0 } (xP [.ref (h0 + 268), .int (xJ t)] D g T h0 s0) (xQv D g h0 (fun τ => xFr (fun k => k = 294) s0 τ ∧ (True))) 0 0 (xA h0) := by
  refine x_met hσ (by decide) (Nat.le_of_ble_eq_true rfl) ?_
  intro p e s m args below meth c hx hb hr hml hown hT hlk hnm hE hW ls hl
  have hl : lv_has ls 3 [(0, .ref (h0 + 268)), (1, .int (xJ t))] := hl
  obtain ⟨Q, eQ⟩ : ∃ Q, Q = MQ below (xQv D g h0 (fun τ => xFr (fun k => k = 294) s0 τ ∧ (True))) args s 0 0 (xA h0) := ⟨_, rfl⟩
  rw [← eQ]
  generalize hHe : ([] : List Loc) = locs at hW ⊢
  obtain ⟨H, eH⟩ : ∃ H, H = s.heap := ⟨_, rfl⟩
  rw [← eH] at hW ⊢
  have hF : xFr (fun k => k = 294) s0 s0 := xFr.rf
  refine x_iconst hx hb dX11_feels_0 ?_
  refine lv_istore_n (lv' := [(2, .int (xJ 0)), (0, .ref (h0 + 268)), (1, .int (xJ t))]) hx hb dX11_feels_1 rfl hl (by decide) rfl (fun ls hl => ?_)
  have L2 : ∀ (fu : Nat) (i2_2 : Int) (s_2 : xS) (H : Heap) (locs : List Loc) (ls : Array Slot), (xR i2_2) → (xFr (fun k => k = 294) s0 s_2) → (0 ≤ i2_2) → (7 - i2_2).toNat < fu → xW D g h0 s H locs s_2 → lv_has ls 3 [(0, .ref (h0 + 268)), (1, .int (xJ t)), (2, .int (xJ i2_2))] → W p l e { frames := 0, cells := 0, slots := 0, locals := 0 } s m args below meth c H locs 0 0 Q (F0 m 2 ls []) := by
    intro fu
    induction fu with
    | zero => intro i2_2 s_2 H locs ls ri2_2 hF_2 v2_0 hm; exact absurd hm (Nat.not_lt_zero _)
    | succ fu ih2 =>
      intro i2_2 s_2 H locs ls ri2_2 hF_2 v2_0 hm hW hl
      refine x_iload_n hx hb hl 2 rfl dX11_feels_2 rfl ?_
      refine x_bipush hx hb dX11_feels_3 (by decide) ?_
      refine x_icmp_ge (tgt := 21) hx hb ri2_2 (by decide) dX11_feels_5 (by decide) (fun c1 => ?_) (fun c1 => ?_)
      · skip
        refine x_aload_n hx hb hl 0 rfl dX11_feels_21 rfl ?_
        refine x_get (j := 39) (v := .ref (h0 + 294)) hx hb hown hT hE hW cls_X11 (Or.inl (by decide)) (so_268 h0 g _) (by decide) rfl wq1224 dX11_feels_22 ?_
        refine x_iconst hx hb dX11_feels_25 ?_
        refine x_iload_n hx hb hl 1 rfl dX11_feels_26 rfl ?_
        refine x_iast hx hb hE hW (by decide) (fun σ => sa_294 h0 g σ) ⟨by decide, by decide⟩ (by decide) rt dX11_feels_27 (fun H locs s2 es2 hW => ?_)
        have hF3 := hF_2.put es2 (by omega)
        refine x_aload_n hx hb hl 0 rfl dX11_feels_28 rfl ?_
        refine x_get (j := 39) (v := .ref (h0 + 294)) hx hb hown hT hE hW cls_X11 (Or.inl (by decide)) (so_268 h0 g _) (by decide) rfl wq1224 dX11_feels_29 ?_
        refine x_iconst hx hb dX11_feels_32 ?_
        refine x_iload_n hx hb hl 1 rfl dX11_feels_33 rfl ?_
        refine x_bipush hx hb dX11_feels_34 (by decide) ?_
        refine x_idivQ hx hb (by decide) (by omega) dX11_feels_36 (fun x4 rx4 => ?_)
        refine x_bipush hx hb dX11_feels_37 (by decide) ?_
        refine x_iremQ hx hb (by decide) (by omega) dX11_feels_39 (fun x5 rx5 => ?_)
        refine x_iast hx hb hE hW (by decide) (fun σ => sa_294 h0 g σ) ⟨by decide, by decide⟩ (by decide) rx5 dX11_feels_40 (fun H locs s6 es6 hW => ?_)
        have hF7 := hF3.put es6 (by omega)
        rw [eQ]
        exact x_vret hx hb hr hlk hW ⟨hF7, trivial⟩ dX11_feels_41
      refine x_aload_n hx hb hl 0 rfl dX11_feels_8 rfl ?_
      refine x_get (j := 39) (v := .ref (h0 + 294)) hx hb hown hT hE hW cls_X11 (Or.inl (by decide)) (so_268 h0 g _) (by decide) rfl wq1224 dX11_feels_9 ?_
      refine x_iload_n hx hb hl 2 rfl dX11_feels_12 rfl ?_
      refine x_iconst hx hb dX11_feels_13 ?_
      refine x_iast hx hb hE hW (by decide) (fun σ => sa_294 h0 g σ) (by omega) (by decide) (by decide) dX11_feels_14 (fun H locs s8 es8 hW => ?_)
      have hF9 := hF_2.put es8 (by omega)
      refine x_iinc (lv' := [(2, .int (xJ (i2_2 + 1))), (0, .ref (h0 + 268)), (1, .int (xJ t))]) hx hb hl 2 rfl dX11_feels_15 (by decide) rfl (fun ls hl => ?_)
      refine lv_goto (tgt := 2) hx hb dX11_feels_18 (by decide) ?_
      exact ih2 (i2_2 + 1) s8 H locs ls (by omega) hF9 (by omega) (by omega) hW (lv_sub hl [1, 2, 0] rfl)
  exact L2 ((7 - 0 : Int).toNat + 1) 0 s0 H locs ls (by decide) hF (by omega) (Nat.lt_succ_self _) hW (lv_sub hl [1, 2, 0] rfl)
set_option maxHeartbeats 4000000 in
set_option maxRecDepth 100000 in
theorem c_X11_isNight (l : Launch) (D : va_G) (g : xG) (T : Nat × Nat × Nat) (h0 : Nat) (s0 : xS) (hσ : xRR s0) (t : Int) (rt : xR t) (p0 : s0 268 17 = 0) : Met l yX11_isNight (xws yX11_isNight cX11_isNight 3 (some .boolean)) { frames := 1, cells := 0, slots := 0, locals := 22 } (xP [.ref (h0 + 268), .int (xJ t)] D g T h0 s0) (xQi D g h0 (fun r τ => xFr (fun k => k = 294) s0 τ ∧ (r = 0))) 0 0 (xA h0) := by
  refine x_met hσ (by decide) (Nat.le_of_ble_eq_true rfl) ?_
  intro p e s m args below meth c hx hb hr hml hown hT hlk hnm hE hW ls hl
  have hl : lv_has ls 3 [(0, .ref (h0 + 268)), (1, .int (xJ t))] := hl
  obtain ⟨Q, eQ⟩ : ∃ Q, Q = MQ below (xQi D g h0 (fun r τ => xFr (fun k => k = 294) s0 τ ∧ (r = 0))) args s 0 0 (xA h0) := ⟨_, rfl⟩
  rw [← eQ]
  generalize hHe : ([] : List Loc) = locs at hW ⊢
  obtain ⟨H, eH⟩ : ∃ H, H = s.heap := ⟨_, rfl⟩
  rw [← eH] at hW ⊢
  have hF : xFr (fun k => k = 294) s0 s0 := xFr.rf
  refine x_aload_n hx hb hl 0 rfl dX11_isNight_0 rfl ?_
  refine x_iload_n hx hb hl 1 rfl dX11_isNight_1 rfl ?_
  refine x_gov (x_runV (As := [.int (xJ t)]) hx hb hml hown hT hE hW hl.1 (Or.inl (by decide)) (so_268 h0 g _) rfl cf_X11_feels wq1573 wq136 wq1571 (c_X11_feels l D g T h0 s0 hW.2.1 t rt) ⟨rfl, rfl, ⟨by decide, by decide⟩, ⟨by decide, by decide⟩⟩ rfl rfl (Nat.le_of_ble_eq_true rfl) dX11_isNight_2) hW (fun s2 H locs hp3 hW => ?_)
  obtain ⟨fs2, hp3⟩ := hp3
  have hF4 := hF.call fs2 (fun k h => by omega)
  have q5 : s2 268 17 = 0 := (congrFun (fs2 _ (by omega)) _).trans p0
  have ghp3 := hp3
  refine x_iconst hx hb dX11_isNight_5 ?_
  refine lv_istore_n (lv' := [(2, .int (xJ 0)), (0, .ref (h0 + 268)), (1, .int (xJ t))]) hx hb dX11_isNight_6 rfl hl (by decide) rfl (fun ls hl => ?_)
  refine x_iload_n hx hb hl 0 rfl dX11_isNight_7 rfl ?_
  refine x_aload_n hx hb hl 1 rfl dX11_isNight_8 rfl ?_
  refine x_get (j := 17) (v := .int (xJ (s2 268 17))) hx hb hown hT hE hW cls_X11 (Or.inl (by decide)) (so_268 h0 g _) (by decide) rfl wq1202 dX11_isNight_9 ?_
  refine x_rd hW (fun x6 ex6 rx6 => ?_)
  have fx6 : x6 = 0 := by rw [ex6, q5]
  refine x_icmp_ge (tgt := 54) hx hb (by decide) rx6 dX11_isNight_12 (by decide) (fun c7 => ?_) (fun c7 => False.elim (by omega))
  refine x_iconst hx hb dX11_isNight_54 ?_
  rw [eQ]
  exact x_zret hx hb hr hlk hW (by omega) ⟨hF4, by omega⟩ dX11_isNight_55
set_option maxHeartbeats 4000000 in
set_option maxRecDepth 100000 in
theorem c_X11_bares (l : Launch) (D : va_G) (g : xG) (T : Nat × Nat × Nat) (h0 : Nat) (s0 : xS) (hσ : xRR s0) (p0 : s0 295 = fun _ => 0) : Met l yX11_bares (xws yX11_bares cX11_bares 2 none) { frames := 0, cells := 0, slots := 0, locals := 0 } (xP [.ref (h0 + 268)] D g T h0 s0) (xQv D g h0 (fun τ => xFr (fun k => k = 295) s0 τ ∧ (((τ 295 = fun _ => 0) ∧ True) ∧ (True)))) 0 0 (xA h0) := by
  refine x_met hσ (by decide) (Nat.le_of_ble_eq_true rfl) ?_
  intro p e s m args below meth c hx hb hr hml hown hT hlk hnm hE hW ls hl
  have hl : lv_has ls 2 [(0, .ref (h0 + 268))] := hl
  obtain ⟨Q, eQ⟩ : ∃ Q, Q = MQ below (xQv D g h0 (fun τ => xFr (fun k => k = 295) s0 τ ∧ (((τ 295 = fun _ => 0) ∧ True) ∧ (True)))) args s 0 0 (xA h0) := ⟨_, rfl⟩
  rw [← eQ]
  generalize hHe : ([] : List Loc) = locs at hW ⊢
  obtain ⟨H, eH⟩ : ∃ H, H = s.heap := ⟨_, rfl⟩
  rw [← eH] at hW ⊢
  have hF : xFr (fun k => k = 295) s0 s0 := xFr.rf
  refine x_iconst hx hb dX11_bares_0 ?_
  refine lv_istore_n (lv' := [(1, .int (xJ 0)), (0, .ref (h0 + 268))]) hx hb dX11_bares_1 rfl hl (by decide) rfl (fun ls hl => ?_)
  have L2 : ∀ (fu : Nat) (i1_2 : Int) (s_2 : xS) (H : Heap) (locs : List Loc) (ls : Array Slot), (xR i1_2) → (xFr (fun k => k = 295) s0 s_2) → (s_2 295 = fun _ => 0) → (0 ≤ i1_2) → (100 - i1_2).toNat < fu → xW D g h0 s H locs s_2 → lv_has ls 2 [(0, .ref (h0 + 268)), (1, .int (xJ i1_2))] → W p l e { frames := 0, cells := 0, slots := 0, locals := 0 } s m args below meth c H locs 0 0 Q (F0 m 2 ls []) := by
    intro fu
    induction fu with
    | zero => intro i1_2 s_2 H locs ls ri1_2 hF_2 q2_0 v2_0 hm; exact absurd hm (Nat.not_lt_zero _)
    | succ fu ih2 =>
      intro i1_2 s_2 H locs ls ri1_2 hF_2 q2_0 v2_0 hm hW hl
      refine x_iload_n hx hb hl 1 rfl dX11_bares_2 rfl ?_
      refine x_bipush hx hb dX11_bares_3 (by decide) ?_
      refine x_icmp_ge (tgt := 21) hx hb ri1_2 (by decide) dX11_bares_5 (by decide) (fun c1 => ?_) (fun c1 => ?_)
      · skip
        rw [eQ]
        exact x_vret hx hb hr hlk hW ⟨hF_2, ⟨q2_0, trivial⟩, trivial⟩ dX11_bares_21
      refine x_aload_n hx hb hl 0 rfl dX11_bares_8 rfl ?_
      refine x_get (j := 40) (v := .ref (h0 + 295)) hx hb hown hT hE hW cls_X11 (Or.inl (by decide)) (so_268 h0 g _) (by decide) rfl wq1225 dX11_bares_9 ?_
      refine x_iload_n hx hb hl 1 rfl dX11_bares_12 rfl ?_
      refine x_iconst hx hb dX11_bares_13 ?_
      refine x_iast hx hb hE hW (by decide) (fun σ => sa_295 h0 g σ) (by omega) (by decide) (by decide) dX11_bares_14 (fun H locs s2 es2 hW => ?_)
      have q3 : s2 295 = fun _ => 0 := by rw [es2]; exact xU_c q2_0
      have hF4 := hF_2.put es2 (by omega)
      refine x_iinc (lv' := [(1, .int (xJ (i1_2 + 1))), (0, .ref (h0 + 268))]) hx hb hl 1 rfl dX11_bares_15 (by decide) rfl (fun ls hl => ?_)
      refine lv_goto (tgt := 2) hx hb dX11_bares_18 (by decide) ?_
      exact ih2 (i1_2 + 1) s2 H locs ls (by omega) hF4 q3 (by omega) (by omega) hW (lv_sub hl [1, 0] rfl)
  exact L2 ((100 - 0 : Int).toNat + 1) 0 s0 H locs ls (by decide) hF p0 (by omega) (Nat.lt_succ_self _) hW (lv_sub hl [1, 0] rfl)
set_option maxHeartbeats 4000000 in
set_option maxRecDepth 100000 in
theorem c_X11_fallsByLamps (l : Launch) (D : va_G) (g : xG) (T : Nat × Nat × Nat) (h0 : Nat) (s0 : xS) (hσ : xRR s0) (p0 : s0 273 = fun _ => (-1)) : Met l yX11_fallsByLamps (xws yX11_fallsByLamps cX11_fallsByLamps 3 none) { frames := 0, cells := 0, slots := 0, locals := 0 } (xP [.ref (h0 + 268)] D g T h0 s0) (xQv D g h0 (fun τ => s0 = τ ∧ (True))) 0 0 (xA h0) := by
  refine x_met hσ (by decide) (Nat.le_of_ble_eq_true rfl) ?_
  intro p e s m args below meth c hx hb hr hml hown hT hlk hnm hE hW ls hl
  have hl : lv_has ls 3 [(0, .ref (h0 + 268))] := hl
  obtain ⟨Q, eQ⟩ : ∃ Q, Q = MQ below (xQv D g h0 (fun τ => s0 = τ ∧ (True))) args s 0 0 (xA h0) := ⟨_, rfl⟩
  rw [← eQ]
  generalize hHe : ([] : List Loc) = locs at hW ⊢
  obtain ⟨H, eH⟩ : ∃ H, H = s.heap := ⟨_, rfl⟩
  rw [← eH] at hW ⊢
  refine x_iconst hx hb dX11_fallsByLamps_0 ?_
  refine lv_istore_n (lv' := [(1, .int (xJ 0)), (0, .ref (h0 + 268))]) hx hb dX11_fallsByLamps_1 rfl hl (by decide) rfl (fun ls hl => ?_)
  have L2 : ∀ (fu : Nat) (i1_2 : Int) (ls : Array Slot), (xR i1_2) → (0 ≤ i1_2) → (4 - i1_2).toNat < fu → lv_has ls 3 [(0, .ref (h0 + 268)), (1, .int (xJ i1_2))] → W p l e { frames := 0, cells := 0, slots := 0, locals := 0 } s m args below meth c H locs 0 0 Q (F0 m 2 ls []) := by
    intro fu
    induction fu with
    | zero => intro i1_2 ls ri1_2 v2_0 hm; exact absurd hm (Nat.not_lt_zero _)
    | succ fu ih2 =>
      intro i1_2 ls ri1_2 v2_0 hm  hl
      refine x_iload_n hx hb hl 1 rfl dX11_fallsByLamps_2 rfl ?_
      refine x_iconst hx hb dX11_fallsByLamps_3 ?_
      refine x_icmp_ge (tgt := 55) hx hb ri1_2 (by decide) dX11_fallsByLamps_4 (by decide) (fun c1 => ?_) (fun c1 => ?_)
      · skip
        rw [eQ]
        exact x_vret hx hb hr hlk hW ⟨rfl, trivial⟩ dX11_fallsByLamps_55
      refine x_iconst hx hb dX11_fallsByLamps_7 ?_
      refine lv_istore_n (lv' := [(2, .int (xJ 0)), (0, .ref (h0 + 268)), (1, .int (xJ i1_2))]) hx hb dX11_fallsByLamps_8 rfl hl (by decide) rfl (fun ls hl => ?_)
      have L9 : ∀ (fu : Nat) (i2_9 : Int) (ls : Array Slot), (xR i2_9) → (0 ≤ i2_9) → (2 - i2_9).toNat < fu → lv_has ls 3 [(0, .ref (h0 + 268)), (1, .int (xJ i1_2)), (2, .int (xJ i2_9))] → W p l e { frames := 0, cells := 0, slots := 0, locals := 0 } s m args below meth c H locs 0 0 Q (F0 m 9 ls []) := by
        intro fu
        induction fu with
        | zero => intro i2_9 ls ri2_9 v9_0 hm; exact absurd hm (Nat.not_lt_zero _)
        | succ fu ih9 =>
          intro i2_9 ls ri2_9 v9_0 hm  hl
          refine x_iload_n hx hb hl 2 rfl dX11_fallsByLamps_9 rfl ?_
          refine x_iconst hx hb dX11_fallsByLamps_10 ?_
          refine x_icmp_ge (tgt := 49) hx hb ri2_9 (by decide) dX11_fallsByLamps_11 (by decide) (fun c2 => ?_) (fun c2 => ?_)
          · skip
            refine x_iinc (lv' := [(1, .int (xJ (i1_2 + 1))), (0, .ref (h0 + 268)), (2, .int (xJ i2_9))]) hx hb hl 1 rfl dX11_fallsByLamps_49 (by decide) rfl (fun ls hl => ?_)
            refine lv_goto (tgt := 2) hx hb dX11_fallsByLamps_52 (by decide) ?_
            exact ih2 (i1_2 + 1) ls (by omega) (by omega) (by omega)  (lv_sub hl [1, 0] rfl)
          refine x_aload_n hx hb hl 0 rfl dX11_fallsByLamps_14 rfl ?_
          refine x_get (j := 4) (v := .ref (h0 + 273)) hx hb hown hT hE hW cls_X11 (Or.inl (by decide)) (so_268 h0 g _) (by decide) rfl wq1189 dX11_fallsByLamps_15 ?_
          refine x_iload_n hx hb hl 1 rfl dX11_fallsByLamps_18 rfl ?_
          refine x_iald hx hb hE hW (Or.inl (by decide)) (sa_273 h0 g _) (by omega) (by decide) dX11_fallsByLamps_19 ?_
          refine x_rd hW (fun x3 ex3 rx3 => ?_)
          have fx3 : x3 = (-1) := by rw [ex3, p0]
          refine x_iconst hx hb dX11_fallsByLamps_20 ?_
          refine x_icmp_eq (tgt := 43) hx hb rx3 (by decide) dX11_fallsByLamps_21 (by decide) (fun c4 => ?_) (fun c4 => False.elim (by omega))
          refine x_iinc (lv' := [(2, .int (xJ (i2_9 + 1))), (0, .ref (h0 + 268)), (1, .int (xJ i1_2))]) hx hb hl 2 rfl dX11_fallsByLamps_43 (by decide) rfl (fun ls hl => ?_)
          refine lv_goto (tgt := 9) hx hb dX11_fallsByLamps_46 (by decide) ?_
          exact ih9 (i2_9 + 1) ls (by omega) (by omega) (by omega)  (lv_sub hl [1, 2, 0] rfl)
      exact L9 ((2 - 0 : Int).toNat + 1) 0 ls (by decide) (by omega) (Nat.lt_succ_self _)  (lv_sub hl [1, 2, 0] rfl)
  exact L2 ((4 - 0 : Int).toNat + 1) 0 ls (by decide) (by omega) (Nat.lt_succ_self _)  (lv_sub hl [1, 0] rfl)
set_option maxHeartbeats 4000000 in
set_option maxRecDepth 100000 in
theorem c_X11_laysShades (l : Launch) (D : va_G) (g : xG) (T : Nat × Nat × Nat) (h0 : Nat) (s0 : xS) (hσ : xRR s0) (t : Int) (rt : xR t) (b : Int) (rb : xR b) (p0 : s0 295 = fun _ => 0) (p1 : s0 268 17 = 0) (p2 : s0 273 = fun _ => (-1)) (p3 : s0 269 34 = 0) : Met l yX11_laysShades (xws yX11_laysShades cX11_laysShades 4 none) { frames := 2, cells := 0, slots := 0, locals := 44 } (xP [.ref (h0 + 268), .int (xJ t), .int (xJ b)] D g T h0 s0) (xQv D g h0 (fun τ => xFr (fun k => k = 294 ∨ k = 295) s0 τ ∧ (((τ 295 = fun _ => 0) ∧ True) ∧ (True)))) 0 0 (xA h0) := by
  refine x_met hσ (by decide) (Nat.le_of_ble_eq_true rfl) ?_
  intro p e s m args below meth c hx hb hr hml hown hT hlk hnm hE hW ls hl
  have hl : lv_has ls 4 [(0, .ref (h0 + 268)), (1, .int (xJ t)), (2, .int (xJ b))] := hl
  obtain ⟨Q, eQ⟩ : ∃ Q, Q = MQ below (xQv D g h0 (fun τ => xFr (fun k => k = 294 ∨ k = 295) s0 τ ∧ (((τ 295 = fun _ => 0) ∧ True) ∧ (True)))) args s 0 0 (xA h0) := ⟨_, rfl⟩
  rw [← eQ]
  generalize hHe : ([] : List Loc) = locs at hW ⊢
  obtain ⟨H, eH⟩ : ∃ H, H = s.heap := ⟨_, rfl⟩
  rw [← eH] at hW ⊢
  have hF : xFr (fun k => k = 294 ∨ k = 295) s0 s0 := xFr.rf
  refine x_aload_n hx hb hl 0 rfl dX11_laysShades_0 rfl ?_
  refine x_gov (x_runV (As := []) hx hb hml hown hT hE hW hl.1 (Or.inl (by decide)) (so_268 h0 g _) rfl cf_X11_bares wq1592 wq140 wq1590 (c_X11_bares l D g T h0 s0 hW.2.1 p0) ⟨rfl, rfl, ⟨by decide, by decide⟩, ⟨by decide, by decide⟩⟩ rfl rfl (Nat.le_of_ble_eq_true rfl) dX11_laysShades_1) hW (fun s2 H locs hp3 hW => ?_)
  obtain ⟨fs2, hp3⟩ := hp3
  have hF4 := hF.call fs2 (fun k h => by omega)
  have q5 : s2 268 17 = 0 := (congrFun (fs2 _ (by omega)) _).trans p1
  have q6 : s2 273 = fun _ => (-1) := (fs2 _ (by omega)).trans p2
  have q7 : s2 269 34 = 0 := (congrFun (fs2 _ (by omega)) _).trans p3
  have ghp3 := hp3.2
  refine x_iconst hx hb dX11_laysShades_4 ?_
  refine lv_istore_n (lv' := [(3, .int (xJ 0)), (0, .ref (h0 + 268)), (1, .int (xJ t)), (2, .int (xJ b))]) hx hb dX11_laysShades_5 rfl hl (by decide) rfl (fun ls hl => ?_)
  have L6 : ∀ (fu : Nat) (i3_6 : Int) (H : Heap) (locs : List Loc) (ls : Array Slot), (xR i3_6) → (0 ≤ i3_6) → (2 - i3_6).toNat < fu → xW D g h0 s H locs s2 → lv_has ls 4 [(0, .ref (h0 + 268)), (1, .int (xJ t)), (3, .int (xJ i3_6))] → W p l e { frames := 2, cells := 0, slots := 0, locals := 44 } s m args below meth c H locs 0 0 Q (F0 m 6 ls []) := by
    intro fu
    induction fu with
    | zero => intro i3_6 H locs ls ri3_6 v6_0 hm; exact absurd hm (Nat.not_lt_zero _)
    | succ fu ih6 =>
      intro i3_6 H locs ls ri3_6 v6_0 hm hW hl
      refine x_iload_n hx hb hl 2 rfl dX11_laysShades_6 rfl ?_
      refine x_iconst hx hb dX11_laysShades_7 ?_
      refine x_icmp_ge (tgt := 35) hx hb ri3_6 (by decide) dX11_laysShades_8 (by decide) (fun c8 => ?_) (fun c8 => ?_)
      · skip
        refine x_aload_n hx hb hl 0 rfl dX11_laysShades_35 rfl ?_
        refine x_iload_n hx hb hl 1 rfl dX11_laysShades_36 rfl ?_
        refine x_goi (x_runV (As := [.int (xJ t)]) hx hb hml hown hT hE hW hl.1 (Or.inl (by decide)) (so_268 h0 g _) rfl cf_X11_isNight wq1604 wq143 wq1602 (c_X11_isNight l D g T h0 s2 hW.2.1 t rt q5) ⟨rfl, rfl, ⟨by decide, by decide⟩, ⟨by decide, by decide⟩⟩ rfl rfl (Nat.le_of_ble_eq_true rfl) dX11_laysShades_37) hW (fun x9 s10 H locs rx9 hp11 hW => ?_)
        obtain ⟨fs10, hp11⟩ := hp11
        have hF12 := hF4.call fs10 (fun k h => by omega)
        have q13 : s10 268 17 = 0 := (congrFun (fs10 _ (by omega)) _).trans q5
        have q14 : s10 273 = fun _ => (-1) := (fs10 _ (by omega)).trans q6
        have q15 : s10 269 34 = 0 := (congrFun (fs10 _ (by omega)) _).trans q7
        have q16 : s10 295 = fun _ => 0 := (fs10 _ (by omega)).trans hp3.1.1
        have ghp11 := hp11
        refine x_if_eq (tgt := 47) hx hb rx9 dX11_laysShades_40 (by decide) (fun c17 => ?_) (fun c17 => False.elim (by omega))
        rw [eQ]
        exact x_vret hx hb hr hlk hW ⟨hF12, ⟨q16, trivial⟩, trivial⟩ dX11_laysShades_47
      refine x_aload_n hx hb hl 0 rfl dX11_laysShades_11 rfl ?_
      refine x_iload_n hx hb hl 2 rfl dX11_laysShades_12 rfl ?_
      refine x_goi (x_runV (As := [.int (xJ i3_6)]) hx hb hml hown hT hE hW hl.1 (Or.inl (by decide)) (so_268 h0 g _) rfl cf_X11_isJudge wq1409 wq109 wq1407 (c_X11_isJudge l D g T h0 s2 hW.2.1 i3_6 ri3_6 q7) ⟨rfl, rfl, ⟨by decide, by decide⟩, ⟨by decide, by decide⟩⟩ rfl rfl (Nat.le_of_ble_eq_true rfl) dX11_laysShades_13) hW (fun x18 s19 H locs rx18 hp20 hW => ?_)
      obtain ⟨es19, hp20⟩ := hp20
      subst es19
      have ghp20 := hp20
      refine x_if_eq (tgt := 29) hx hb rx18 dX11_laysShades_16 (by decide) (fun c21 => ?_) (fun c21 => False.elim (by omega))
      refine x_iinc (lv' := [(3, .int (xJ (i3_6 + 1))), (0, .ref (h0 + 268)), (1, .int (xJ t))]) hx hb hl 2 rfl dX11_laysShades_29 (by decide) rfl (fun ls hl => ?_)
      refine lv_goto (tgt := 6) hx hb dX11_laysShades_32 (by decide) ?_
      exact ih6 (i3_6 + 1) H locs ls (by omega) (by omega) (by omega) hW (lv_sub hl [1, 2, 0] rfl)
  exact L6 ((2 - 0 : Int).toNat + 1) 0 H locs ls (by decide) (by omega) (Nat.lt_succ_self _) hW (lv_sub hl [1, 2, 0] rfl)
set_option maxHeartbeats 4000000 in
set_option maxRecDepth 100000 in
theorem c_X11_walksOn (l : Launch) (D : va_G) (g : xG) (T : Nat × Nat × Nat) (h0 : Nat) (s0 : xS) (hσ : xRR s0) (j : Int) (rj : xR j) (p0 : s0 269 34 = 0) : Met l yX11_walksOn (xws yX11_walksOn cX11_walksOn 3 none) { frames := 2, cells := 0, slots := 0, locals := 42 } (xP [.ref (h0 + 268), .int (xJ j)] D g T h0 s0) (xQv D g h0 (fun τ => s0 = τ ∧ (True))) 0 0 (xA h0) := by
  refine x_met hσ (by decide) (Nat.le_of_ble_eq_true rfl) ?_
  intro p e s m args below meth c hx hb hr hml hown hT hlk hnm hE hW ls hl
  have hl : lv_has ls 3 [(0, .ref (h0 + 268)), (1, .int (xJ j))] := hl
  obtain ⟨Q, eQ⟩ : ∃ Q, Q = MQ below (xQv D g h0 (fun τ => s0 = τ ∧ (True))) args s 0 0 (xA h0) := ⟨_, rfl⟩
  rw [← eQ]
  generalize hHe : ([] : List Loc) = locs at hW ⊢
  obtain ⟨H, eH⟩ : ∃ H, H = s.heap := ⟨_, rfl⟩
  rw [← eH] at hW ⊢
  refine x_aload_n hx hb hl 0 rfl dX11_walksOn_0 rfl ?_
  refine x_iload_n hx hb hl 1 rfl dX11_walksOn_1 rfl ?_
  refine x_goi (x_runV (As := [.int (xJ j)]) hx hb hml hown hT hE hW hl.1 (Or.inl (by decide)) (so_268 h0 g _) rfl cf_X11_isJudge wq1409 wq109 wq1407 (c_X11_isJudge l D g T h0 s0 hW.2.1 j rj p0) ⟨rfl, rfl, ⟨by decide, by decide⟩, ⟨by decide, by decide⟩⟩ rfl rfl (Nat.le_of_ble_eq_true rfl) dX11_walksOn_2) hW (fun x1 s2 H locs rx1 hp3 hW => ?_)
  obtain ⟨es2, hp3⟩ := hp3
  subst es2
  have ghp3 := hp3
  refine x_if_eq (tgt := 25) hx hb rx1 dX11_walksOn_5 (by decide) (fun c4 => ?_) (fun c4 => False.elim (by omega))
  rw [eQ]
  exact x_vret hx hb hr hlk hW ⟨rfl, trivial⟩ dX11_walksOn_25
set_option maxHeartbeats 4000000 in
set_option maxRecDepth 100000 in
theorem c_X11_laysOrder (l : Launch) (D : va_G) (g : xG) (T : Nat × Nat × Nat) (h0 : Nat) (s0 : xS) (hσ : xRR s0) (p0 : s0 269 35 = 0) : Met l yX11_laysOrder (xws yX11_laysOrder cX11_laysOrder 4 (some .int)) { frames := 3, cells := 0, slots := 0, locals := 63 } (xP [.ref (h0 + 268)] D g T h0 s0) (xQi D g h0 (fun r τ => s0 = τ ∧ (r = 0))) 0 0 (xA h0) := by
  refine x_met hσ (by decide) (Nat.le_of_ble_eq_true rfl) ?_
  intro p e s m args below meth c hx hb hr hml hown hT hlk hnm hE hW ls hl
  have hl : lv_has ls 4 [(0, .ref (h0 + 268))] := hl
  obtain ⟨Q, eQ⟩ : ∃ Q, Q = MQ below (xQi D g h0 (fun r τ => s0 = τ ∧ (r = 0))) args s 0 0 (xA h0) := ⟨_, rfl⟩
  rw [← eQ]
  generalize hHe : ([] : List Loc) = locs at hW ⊢
  obtain ⟨H, eH⟩ : ∃ H, H = s.heap := ⟨_, rfl⟩
  rw [← eH] at hW ⊢
  refine x_iconst hx hb dX11_laysOrder_0 ?_
  refine lv_istore_n (lv' := [(1, .int (xJ 0)), (0, .ref (h0 + 268))]) hx hb dX11_laysOrder_1 rfl hl (by decide) rfl (fun ls hl => ?_)
  refine x_iconst hx hb dX11_laysOrder_2 ?_
  refine lv_istore_n (lv' := [(2, .int (xJ 0)), (1, .int (xJ 0)), (0, .ref (h0 + 268))]) hx hb dX11_laysOrder_3 rfl hl (by decide) rfl (fun ls hl => ?_)
  have L4 : ∀ (fu : Nat) (i2_4 : Int) (H : Heap) (locs : List Loc) (ls : Array Slot), (xR i2_4) → (0 ≤ i2_4) → (0 = 0) → (10 - i2_4).toNat < fu → xW D g h0 s H locs s0 → lv_has ls 4 [(0, .ref (h0 + 268)), (1, .int (xJ 0)), (2, .int (xJ i2_4))] → W p l e { frames := 3, cells := 0, slots := 0, locals := 63 } s m args below meth c H locs 0 0 Q (F0 m 4 ls []) := by
    intro fu
    induction fu with
    | zero => intro i2_4 H locs ls ri2_4 v4_0 v4_1 hm; exact absurd hm (Nat.not_lt_zero _)
    | succ fu ih4 =>
      intro i2_4 H locs ls ri2_4 v4_0 v4_1 hm hW hl
      refine x_iload_n hx hb hl 2 rfl dX11_laysOrder_4 rfl ?_
      refine x_bipush hx hb dX11_laysOrder_5 (by decide) ?_
      refine x_icmp_ge (tgt := 117) hx hb ri2_4 (by decide) dX11_laysOrder_7 (by decide) (fun c1 => ?_) (fun c1 => ?_)
      · skip
        refine x_iload_n hx hb hl 1 rfl dX11_laysOrder_117 rfl ?_
        rw [eQ]
        exact x_iret hx hb hr hlk hW (by decide) ⟨rfl, by omega⟩ dX11_laysOrder_118
      refine x_aload_n hx hb hl 0 rfl dX11_laysOrder_10 rfl ?_
      refine x_iload_n hx hb hl 2 rfl dX11_laysOrder_11 rfl ?_
      refine x_goi (x_runV (As := [.int (xJ i2_4)]) hx hb hml hown hT hE hW hl.1 (Or.inl (by decide)) (so_268 h0 g _) rfl cf_X11_owes wq1620 wq147 wq1618 (c_X11_owes l D g T h0 s0 hW.2.1 i2_4 ri2_4 p0) ⟨rfl, rfl, ⟨by decide, by decide⟩, ⟨by decide, by decide⟩⟩ rfl rfl (Nat.le_of_ble_eq_true rfl) dX11_laysOrder_12) hW (fun x2 s3 H locs rx2 hp4 hW => ?_)
      obtain ⟨es3, hp4⟩ := hp4
      subst es3
      have ghp4 := hp4
      refine x_if_ne (tgt := 21) hx hb rx2 dX11_laysOrder_15 (by decide) (fun c5 => False.elim (by omega)) (fun c5 => ?_)
      refine lv_goto (tgt := 111) hx hb dX11_laysOrder_18 (by decide) ?_
      refine x_iinc (lv' := [(2, .int (xJ (i2_4 + 1))), (0, .ref (h0 + 268)), (1, .int (xJ 0))]) hx hb hl 2 rfl dX11_laysOrder_111 (by decide) rfl (fun ls hl => ?_)
      refine lv_goto (tgt := 4) hx hb dX11_laysOrder_114 (by decide) ?_
      exact ih4 (i2_4 + 1) H locs ls (by omega) (by omega) (by omega) (by omega) hW (lv_sub hl [1, 2, 0] rfl)
  exact L4 ((10 - 0 : Int).toNat + 1) 0 H locs ls (by decide) (by omega) (by omega) (Nat.lt_succ_self _) hW (lv_sub hl [2, 1, 0] rfl)
set_option maxHeartbeats 4000000 in
set_option maxRecDepth 100000 in
theorem c_X11_draws (l : Launch) (D : va_G) (g : xG) (T : Nat × Nat × Nat) (h0 : Nat) (s0 : xS) (hσ : xRR s0) (zm : Int) (p0 : s0 269 34 = 0) (p1 : s0 269 35 = 0) (p2 : s0 269 36 = 0) (p3 : 0 ≤ s0 269 37 ∧ s0 269 37 ≤ 9999) (p4 : 0 ≤ s0 269 38 ∧ s0 269 38 ≤ 65535) (p5 : s0 269 37 = zm) : Met l yX11_draws (xws yX11_draws cX11_draws 1 (some .int)) { frames := 0, cells := 0, slots := 0, locals := 0 } (xP [.ref (h0 + 268)] D g T h0 s0) (xQi D g h0 (fun r τ => xFr (fun k => k = 269) s0 τ ∧ (((τ 269 34 = 0) ∧ (τ 269 35 = 0) ∧ (τ 269 36 = 0) ∧ (0 ≤ τ 269 37 ∧ τ 269 37 ≤ 9999) ∧ (0 ≤ τ 269 38 ∧ τ 269 38 ≤ 65535) ∧ (τ 269 37 = zm) ∧ True) ∧ (0 ≤ r ∧ r < 10)))) 0 0 (xA h0) := by
  refine x_met hσ (by decide) (Nat.le_of_ble_eq_true rfl) ?_
  intro p e s m args below meth c hx hb hr hml hown hT hlk hnm hE hW ls hl
  have hl : lv_has ls 1 [(0, .ref (h0 + 268))] := hl
  obtain ⟨Q, eQ⟩ : ∃ Q, Q = MQ below (xQi D g h0 (fun r τ => xFr (fun k => k = 269) s0 τ ∧ (((τ 269 34 = 0) ∧ (τ 269 35 = 0) ∧ (τ 269 36 = 0) ∧ (0 ≤ τ 269 37 ∧ τ 269 37 ≤ 9999) ∧ (0 ≤ τ 269 38 ∧ τ 269 38 ≤ 65535) ∧ (τ 269 37 = zm) ∧ True) ∧ (0 ≤ r ∧ r < 10)))) args s 0 0 (xA h0) := ⟨_, rfl⟩
  rw [← eQ]
  generalize hHe : ([] : List Loc) = locs at hW ⊢
  obtain ⟨H, eH⟩ : ∃ H, H = s.heap := ⟨_, rfl⟩
  rw [← eH] at hW ⊢
  have hF : xFr (fun k => k = 269) s0 s0 := xFr.rf
  refine x_aload_n hx hb hl 0 rfl dX11_draws_0 rfl ?_
  refine x_get (j := 0) (v := .ref (h0 + 269)) hx hb hown hT hE hW cls_X11 (Or.inl (by decide)) (so_268 h0 g _) (by decide) rfl wq1185 dX11_draws_1 ?_
  refine x_bipush hx hb dX11_draws_4 (by decide) ?_
  refine x_sipush hx hb dX11_draws_6 (by decide) ?_
  refine x_aload_n hx hb hl 0 rfl dX11_draws_9 rfl ?_
  refine x_get (j := 0) (v := .ref (h0 + 269)) hx hb hown hT hE hW cls_X11 (Or.inl (by decide)) (so_268 h0 g _) (by decide) rfl wq1185 dX11_draws_10 ?_
  refine x_bipush hx hb dX11_draws_13 (by decide) ?_
  refine x_iald hx hb hE hW (Or.inl (by decide)) (sa_269 h0 g _) ⟨by decide, by decide⟩ (by decide) dX11_draws_15 ?_
  refine x_rd hW (fun x1 ex1 rx1 => ?_)
  have qx1 : 0 ≤ x1 ∧ x1 ≤ 65535 := by rw [ex1]; exact p4
  refine x_imul hx hb dX11_draws_16 ?_
  refine x_sipush hx hb dX11_draws_17 (by decide) ?_
  refine x_iadd hx hb dX11_draws_20 ?_
  refine lv_ldcw (v := xJ 65536) hx hb hown (hT _ wq1570) dX11_draws_21 ?_
  refine x_irem hx hb (by omega) (by decide) (by omega) (by decide) dX11_draws_24 ?_
  refine x_iast hx hb hE hW (by decide) (fun σ => sa_269 h0 g σ) ⟨by decide, by decide⟩ (by decide) (by omega) dX11_draws_25 (fun H locs s2 es2 hW => ?_)
  have q3 : s2 269 34 = 0 := by rw [es2, xU_j _ _ (by decide)]; exact p0
  have q4 : s2 269 35 = 0 := by rw [es2, xU_j _ _ (by decide)]; exact p1
  have q5 : s2 269 36 = 0 := by rw [es2, xU_j _ _ (by decide)]; exact p2
  have q6 : 0 ≤ s2 269 37 ∧ s2 269 37 ≤ 9999 := by rw [es2, xU_j _ _ (by decide)]; exact p3
  have q7 : 0 ≤ s2 269 38 ∧ s2 269 38 ≤ 65535 := by rw [es2, xU_s]; omega
  have q8 : s2 269 37 = zm := by rw [es2, xU_j _ _ (by decide)]; exact p5
  have hF9 := hF.put es2 (by omega)
  refine x_aload_n hx hb hl 0 rfl dX11_draws_26 rfl ?_
  refine x_get (j := 0) (v := .ref (h0 + 269)) hx hb hown hT hE hW cls_X11 (Or.inl (by decide)) (so_268 h0 g _) (by decide) rfl wq1185 dX11_draws_27 ?_
  refine x_bipush hx hb dX11_draws_30 (by decide) ?_
  refine x_iald hx hb hE hW (Or.inl (by decide)) (sa_269 h0 g _) ⟨by decide, by decide⟩ (by decide) dX11_draws_32 ?_
  refine x_rd hW (fun x10 ex10 rx10 => ?_)
  have qx10 : 0 ≤ x10 ∧ x10 ≤ 65535 := by rw [ex10]; exact q7
  refine x_bipush hx hb dX11_draws_33 (by decide) ?_
  refine x_irem hx hb rx10 (by decide) (by omega) (by decide) dX11_draws_35 ?_
  rw [eQ]
  exact x_iret hx hb hr hlk hW (by omega) ⟨hF9, ⟨q3, q4, q5, q6, q7, q8, trivial⟩, by omega⟩ dX11_draws_36
set_option maxHeartbeats 4000000 in
set_option maxRecDepth 100000 in
theorem c_X11_begins (l : Launch) (D : va_G) (g : xG) (T : Nat × Nat × Nat) (h0 : Nat) (s0 : xS) (hσ : xRR s0) (p0 : s0 268 17 = 0) : Met l yX11_begins (xws yX11_begins cX11_begins 1 none) { frames := 0, cells := 0, slots := 0, locals := 0 } (xP [.ref (h0 + 268)] D g T h0 s0) (xQv D g h0 (fun τ => xFr (fun k => k = 268) s0 τ ∧ (((τ 268 41 = 0) ∧ (τ 268 42 = 0) ∧ (τ 268 43 = 0) ∧ (τ 268 44 = 0) ∧ (τ 268 17 = 0) ∧ True) ∧ (True)))) 0 0 (xA h0) := by
  refine x_met hσ (by decide) (Nat.le_of_ble_eq_true rfl) ?_
  intro p e s m args below meth c hx hb hr hml hown hT hlk hnm hE hW ls hl
  have hl : lv_has ls 1 [(0, .ref (h0 + 268))] := hl
  obtain ⟨Q, eQ⟩ : ∃ Q, Q = MQ below (xQv D g h0 (fun τ => xFr (fun k => k = 268) s0 τ ∧ (((τ 268 41 = 0) ∧ (τ 268 42 = 0) ∧ (τ 268 43 = 0) ∧ (τ 268 44 = 0) ∧ (τ 268 17 = 0) ∧ True) ∧ (True)))) args s 0 0 (xA h0) := ⟨_, rfl⟩
  rw [← eQ]
  generalize hHe : ([] : List Loc) = locs at hW ⊢
  obtain ⟨H, eH⟩ : ∃ H, H = s.heap := ⟨_, rfl⟩
  rw [← eH] at hW ⊢
  have hF : xFr (fun k => k = 268) s0 s0 := xFr.rf
  refine x_aload_n hx hb hl 0 rfl dX11_begins_0 rfl ?_
  refine x_iconst hx hb dX11_begins_1 ?_
  refine x_put (j := 41) hx hb hown hT hE hW cls_X11 (by decide) (fun σ => so_268 h0 g σ) (by decide) (st_X11_41 h0 s0 268 0) (ln_X11_41 h0 _ _) wq1226 rfl rfl rfl (by decide) dX11_begins_2 (fun H locs s1 es1 hW => ?_)
  have q2 : s1 268 17 = 0 := by rw [es1, xU_j _ _ (by decide)]; exact p0
  have q3 : s1 268 41 = 0 := by rw [es1, xU_s]
  have hF4 := hF.put es1 (by omega)
  refine x_aload_n hx hb hl 0 rfl dX11_begins_5 rfl ?_
  refine x_iconst hx hb dX11_begins_6 ?_
  refine x_put (j := 42) hx hb hown hT hE hW cls_X11 (by decide) (fun σ => so_268 h0 g σ) (by decide) (st_X11_42 h0 s1 268 0) (ln_X11_42 h0 _ _) wq1227 rfl rfl rfl (by decide) dX11_begins_7 (fun H locs s5 es5 hW => ?_)
  have q6 : s5 268 17 = 0 := by rw [es5, xU_j _ _ (by decide)]; exact q2
  have q7 : s5 268 41 = 0 := by rw [es5, xU_j _ _ (by decide)]; exact q3
  have q8 : s5 268 42 = 0 := by rw [es5, xU_s]
  have hF9 := hF4.put es5 (by omega)
  refine x_aload_n hx hb hl 0 rfl dX11_begins_10 rfl ?_
  refine x_iconst hx hb dX11_begins_11 ?_
  refine x_put (j := 43) hx hb hown hT hE hW cls_X11 (by decide) (fun σ => so_268 h0 g σ) (by decide) (st_X11_43 h0 s5 268 0) (ln_X11_43 h0 _ _) wq1228 rfl rfl rfl (by decide) dX11_begins_12 (fun H locs s10 es10 hW => ?_)
  have q11 : s10 268 17 = 0 := by rw [es10, xU_j _ _ (by decide)]; exact q6
  have q12 : s10 268 41 = 0 := by rw [es10, xU_j _ _ (by decide)]; exact q7
  have q13 : s10 268 42 = 0 := by rw [es10, xU_j _ _ (by decide)]; exact q8
  have q14 : s10 268 43 = 0 := by rw [es10, xU_s]
  have hF15 := hF9.put es10 (by omega)
  refine x_aload_n hx hb hl 0 rfl dX11_begins_15 rfl ?_
  refine x_iconst hx hb dX11_begins_16 ?_
  refine x_put (j := 44) hx hb hown hT hE hW cls_X11 (by decide) (fun σ => so_268 h0 g σ) (by decide) (st_X11_44 h0 s10 268 0) (ln_X11_44 h0 _ _) wq1229 rfl rfl rfl (by decide) dX11_begins_17 (fun H locs s16 es16 hW => ?_)
  have q17 : s16 268 17 = 0 := by rw [es16, xU_j _ _ (by decide)]; exact q11
  have q18 : s16 268 41 = 0 := by rw [es16, xU_j _ _ (by decide)]; exact q12
  have q19 : s16 268 42 = 0 := by rw [es16, xU_j _ _ (by decide)]; exact q13
  have q20 : s16 268 43 = 0 := by rw [es16, xU_j _ _ (by decide)]; exact q14
  have q21 : s16 268 44 = 0 := by rw [es16, xU_s]
  have hF22 := hF15.put es16 (by omega)
  rw [eQ]
  exact x_vret hx hb hr hlk hW ⟨hF22, ⟨q18, q19, q20, q21, q17, trivial⟩, trivial⟩ dX11_begins_20
set_option maxHeartbeats 4000000 in
set_option maxRecDepth 100000 in
theorem c_X11_shadesGo (l : Launch) (D : va_G) (g : xG) (T : Nat × Nat × Nat) (h0 : Nat) (s0 : xS) (hσ : xRR s0) (zm : Int) (hz : 0 ≤ zm ∧ zm < 9999) (p0 : s0 269 34 = 0) (p1 : s0 269 35 = 0) (p2 : s0 269 36 = 0) (p3 : 0 ≤ s0 269 37 ∧ s0 269 37 ≤ 9999) (p4 : 0 ≤ s0 269 38 ∧ s0 269 38 ≤ 65535) (p5 : s0 268 41 = 0) (p6 : s0 268 42 = 0) (p7 : s0 268 43 = 0) (p8 : s0 268 44 = 0) (p9 : s0 295 = fun _ => 0) (p10 : s0 268 17 = 0) (p11 : s0 273 = fun _ => (-1)) (p12 : s0 269 37 = zm) : Met l yX11_shadesGo (xws yX11_shadesGo cX11_shadesGo 6 none) { frames := 4, cells := 0, slots := 0, locals := 86 } (xP [.ref (h0 + 268)] D g T h0 s0) (xQv D g h0 (fun τ => xFr (fun k => k = 268 ∨ k = 269 ∨ k = 294 ∨ k = 295 ∨ k = 299) s0 τ ∧ (((τ 269 34 = 0) ∧ (τ 269 35 = 0) ∧ (τ 269 36 = 0) ∧ (0 ≤ τ 269 37 ∧ τ 269 37 ≤ 9999) ∧ (0 ≤ τ 269 38 ∧ τ 269 38 ≤ 65535) ∧ (τ 268 41 = 0) ∧ (τ 268 42 = 0) ∧ (τ 268 43 = 0) ∧ (τ 268 44 = 0) ∧ (τ 295 = fun _ => 0) ∧ (τ 268 17 = 0) ∧ True) ∧ (True)))) 0 0 (xA h0) := by
  refine x_met hσ (by decide) (Nat.le_of_ble_eq_true rfl) ?_
  intro p e s m args below meth c hx hb hr hml hown hT hlk hnm hE hW ls hl
  have hl : lv_has ls 6 [(0, .ref (h0 + 268))] := hl
  obtain ⟨Q, eQ⟩ : ∃ Q, Q = MQ below (xQv D g h0 (fun τ => xFr (fun k => k = 268 ∨ k = 269 ∨ k = 294 ∨ k = 295 ∨ k = 299) s0 τ ∧ (((τ 269 34 = 0) ∧ (τ 269 35 = 0) ∧ (τ 269 36 = 0) ∧ (0 ≤ τ 269 37 ∧ τ 269 37 ≤ 9999) ∧ (0 ≤ τ 269 38 ∧ τ 269 38 ≤ 65535) ∧ (τ 268 41 = 0) ∧ (τ 268 42 = 0) ∧ (τ 268 43 = 0) ∧ (τ 268 44 = 0) ∧ (τ 295 = fun _ => 0) ∧ (τ 268 17 = 0) ∧ True) ∧ (True)))) args s 0 0 (xA h0) := ⟨_, rfl⟩
  rw [← eQ]
  generalize hHe : ([] : List Loc) = locs at hW ⊢
  obtain ⟨H, eH⟩ : ∃ H, H = s.heap := ⟨_, rfl⟩
  rw [← eH] at hW ⊢
  have hF : xFr (fun k => k = 268 ∨ k = 269 ∨ k = 294 ∨ k = 295 ∨ k = 299) s0 s0 := xFr.rf
  refine x_aload_n hx hb hl 0 rfl dX11_shadesGo_0 rfl ?_
  refine x_goi (x_runV (As := []) hx hb hml hown hT hE hW hl.1 (Or.inl (by decide)) (so_268 h0 g _) rfl cf_X11_draws wq1568 wq135 wq1566 (c_X11_draws l D g T h0 s0 hW.2.1 zm p0 p1 p2 p3 p4 p12) ⟨rfl, rfl, ⟨by decide, by decide⟩, ⟨by decide, by decide⟩⟩ rfl rfl (Nat.le_of_ble_eq_true rfl) dX11_shadesGo_1) hW (fun x1 s2 H locs rx1 hp3 hW => ?_)
  obtain ⟨fs2, hp3⟩ := hp3
  have hF4 := hF.call fs2 (fun k h => by omega)
  have q5 : s2 268 41 = 0 := (congrFun (fs2 _ (by omega)) _).trans p5
  have q6 : s2 268 42 = 0 := (congrFun (fs2 _ (by omega)) _).trans p6
  have q7 : s2 268 43 = 0 := (congrFun (fs2 _ (by omega)) _).trans p7
  have q8 : s2 268 44 = 0 := (congrFun (fs2 _ (by omega)) _).trans p8
  have q9 : s2 295 = fun _ => 0 := (fs2 _ (by omega)).trans p9
  have q10 : s2 268 17 = 0 := (congrFun (fs2 _ (by omega)) _).trans p10
  have q11 : s2 273 = fun _ => (-1) := (fs2 _ (by omega)).trans p11
  have ghp3 := hp3.2
  refine lv_istore_n (lv' := [(1, .int (xJ x1)), (0, .ref (h0 + 268))]) hx hb dX11_shadesGo_4 rfl hl (by decide) rfl (fun ls hl => ?_)
  refine x_aload_n hx hb hl 1 rfl dX11_shadesGo_5 rfl ?_
  refine x_aload_n hx hb hl 1 rfl dX11_shadesGo_6 rfl ?_
  refine x_get (j := 0) (v := .ref (h0 + 269)) hx hb hown hT hE hW cls_X11 (Or.inl (by decide)) (so_268 h0 g _) (by decide) rfl wq1185 dX11_shadesGo_7 ?_
  refine x_bipush hx hb dX11_shadesGo_10 (by decide) ?_
  refine x_iald hx hb hE hW (Or.inl (by decide)) (sa_269 h0 g _) ⟨by decide, by decide⟩ (by decide) dX11_shadesGo_12 ?_
  refine x_rd hW (fun x12 ex12 rx12 => ?_)
  have fx12 : x12 = zm := by rw [ex12, hp3.1.2.2.2.2.2.1]
  have qx12 : 0 ≤ x12 ∧ x12 ≤ 9999 := by rw [ex12]; exact hp3.1.2.2.2.1
  refine x_gov (x_runV (As := [.int (xJ x12)]) hx hb hml hown hT hE hW hl.1 (Or.inl (by decide)) (so_268 h0 g _) rfl cf_X11_feels wq1573 wq136 wq1571 (c_X11_feels l D g T h0 s2 hW.2.1 x12 rx12) ⟨rfl, rfl, ⟨by decide, by decide⟩, ⟨by decide, by decide⟩⟩ rfl rfl (Nat.le_of_ble_eq_true rfl) dX11_shadesGo_13) hW (fun s14 H locs hp15 hW => ?_)
  obtain ⟨fs14, hp15⟩ := hp15
  have hF16 := hF4.call fs14 (fun k h => by omega)
  have q17 : s14 268 41 = 0 := (congrFun (fs14 _ (by omega)) _).trans q5
  have q18 : s14 268 42 = 0 := (congrFun (fs14 _ (by omega)) _).trans q6
  have q19 : s14 268 43 = 0 := (congrFun (fs14 _ (by omega)) _).trans q7
  have q20 : s14 268 44 = 0 := (congrFun (fs14 _ (by omega)) _).trans q8
  have q21 : s14 295 = fun _ => 0 := (fs14 _ (by omega)).trans q9
  have q22 : s14 268 17 = 0 := (congrFun (fs14 _ (by omega)) _).trans q10
  have q23 : s14 273 = fun _ => (-1) := (fs14 _ (by omega)).trans q11
  have q24 : s14 269 34 = 0 := (congrFun (fs14 _ (by omega)) _).trans hp3.1.1
  have q25 : s14 269 35 = 0 := (congrFun (fs14 _ (by omega)) _).trans hp3.1.2.1
  have q26 : s14 269 36 = 0 := (congrFun (fs14 _ (by omega)) _).trans hp3.1.2.2.1
  have q27 : 0 ≤ s14 269 37 ∧ s14 269 37 ≤ 9999 := by rw [fs14 269 (by omega)]; exact hp3.1.2.2.2.1
  have q28 : 0 ≤ s14 269 38 ∧ s14 269 38 ≤ 65535 := by rw [fs14 269 (by omega)]; exact hp3.1.2.2.2.2.1
  have q29 : s14 269 37 = zm := (congrFun (fs14 _ (by omega)) _).trans hp3.1.2.2.2.2.2.1
  have ghp15 := hp15
  refine x_iload_n hx hb hl 0 rfl dX11_shadesGo_16 rfl ?_
  refine x_aload_n hx hb hl 1 rfl dX11_shadesGo_17 rfl ?_
  refine x_bipush hx hb dX11_shadesGo_18 (by decide) ?_
  refine x_bipush hx hb dX11_shadesGo_20 (by decide) ?_
  refine x_goi (x_runV (As := [.int (xJ 99), .int (xJ 10)]) hx hb hml hown hT hE hW hl.1 (Or.inl (by decide)) (so_268 h0 g _) rfl cf_X11_byLaw wq1577 wq137 wq1575 (c_X11_byLaw l D g T h0 s14 hW.2.1 99 (by decide) 10 (by decide) q22) ⟨rfl, rfl, ⟨by decide, by decide⟩, ⟨by decide, by decide⟩⟩ rfl rfl (Nat.le_of_ble_eq_true rfl) dX11_shadesGo_22) hW (fun x30 s31 H locs rx30 hp32 hW => ?_)
  obtain ⟨es31, hp32⟩ := hp32
  subst es31
  have ghp32 := hp32
  refine x_icmp_ge (tgt := 32) hx hb rx1 rx30 dX11_shadesGo_25 (by decide) (fun c33 => ?_) (fun c33 => False.elim (by omega))
  refine x_iconst hx hb dX11_shadesGo_32 ?_
  refine lv_istore_n (lv' := [(2, .int (xJ 0)), (1, .int (xJ x1)), (0, .ref (h0 + 268))]) hx hb dX11_shadesGo_33 rfl hl (by decide) rfl (fun ls hl => ?_)
  refine x_aload_n hx hb hl 2 rfl dX11_shadesGo_34 rfl ?_
  refine x_aload_n hx hb hl 2 rfl dX11_shadesGo_35 rfl ?_
  refine x_get (j := 43) (v := .int (xJ (s14 268 43))) hx hb hown hT hE hW cls_X11 (Or.inl (by decide)) (so_268 h0 g _) (by decide) rfl wq1228 dX11_shadesGo_36 ?_
  refine x_rd hW (fun x34 ex34 rx34 => ?_)
  have fx34 : x34 = 0 := by rw [ex34, q19]
  refine x_iload_n hx hb hl 0 rfl dX11_shadesGo_39 rfl ?_
  refine x_if_eq (tgt := 47) hx hb (by decide) dX11_shadesGo_40 (by decide) (fun c35 => ?_) (fun c35 => False.elim (by omega))
  refine x_iconst hx hb dX11_shadesGo_47 ?_
  refine x_iadd hx hb dX11_shadesGo_48 ?_
  refine x_put (j := 43) hx hb hown hT hE hW cls_X11 (by decide) (fun σ => so_268 h0 g σ) (by decide) (st_X11_43 h0 s14 268 (x34 + 0)) (ln_X11_43 h0 _ _) wq1228 rfl rfl rfl (by omega) dX11_shadesGo_49 (fun H locs s36 es36 hW => ?_)
  have q37 : s36 268 41 = 0 := by rw [es36, xU_j _ _ (by decide)]; exact q17
  have q38 : s36 268 42 = 0 := by rw [es36, xU_j _ _ (by decide)]; exact q18
  have q39 : s36 268 43 = (x34 + 0) := by rw [es36, xU_s]
  have q40 : s36 268 44 = 0 := by rw [es36, xU_j _ _ (by decide)]; exact q20
  have q41 : s36 295 = fun _ => 0 := by rw [es36, xU_k _ _ _ (by omega)]; exact q21
  have q42 : s36 268 17 = 0 := by rw [es36, xU_j _ _ (by decide)]; exact q22
  have q43 : s36 273 = fun _ => (-1) := by rw [es36, xU_k _ _ _ (by omega)]; exact q23
  have q44 : s36 269 34 = 0 := by rw [es36, xU_k _ _ _ (by omega)]; exact q24
  have q45 : s36 269 35 = 0 := by rw [es36, xU_k _ _ _ (by omega)]; exact q25
  have q46 : s36 269 36 = 0 := by rw [es36, xU_k _ _ _ (by omega)]; exact q26
  have q47 : 0 ≤ s36 269 37 ∧ s36 269 37 ≤ 9999 := by rw [es36, xU_k _ _ _ (by omega)]; exact q27
  have q48 : 0 ≤ s36 269 38 ∧ s36 269 38 ≤ 65535 := by rw [es36, xU_k _ _ _ (by omega)]; exact q28
  have q49 : s36 269 37 = zm := by rw [es36, xU_k _ _ _ (by omega)]; exact q29
  have hF50 := hF16.put es36 (by omega)
  refine x_aload_n hx hb hl 2 rfl dX11_shadesGo_52 rfl ?_
  refine x_aload_n hx hb hl 2 rfl dX11_shadesGo_53 rfl ?_
  refine x_get (j := 0) (v := .ref (h0 + 269)) hx hb hown hT hE hW cls_X11 (Or.inl (by decide)) (so_268 h0 g _) (by decide) rfl wq1185 dX11_shadesGo_54 ?_
  refine x_bipush hx hb dX11_shadesGo_57 (by decide) ?_
  refine x_iald hx hb hE hW (Or.inl (by decide)) (sa_269 h0 g _) ⟨by decide, by decide⟩ (by decide) dX11_shadesGo_59 ?_
  refine x_rd hW (fun x51 ex51 rx51 => ?_)
  have fx51 : x51 = zm := by rw [ex51, q49]
  have qx51 : 0 ≤ x51 ∧ x51 ≤ 9999 := by rw [ex51]; exact q47
  refine x_iload_n hx hb hl 0 rfl dX11_shadesGo_60 rfl ?_
  refine x_gov (x_runV (As := [.int (xJ x51), .int (xJ 0)]) hx hb hml hown hT hE hW hl.1 (Or.inl (by decide)) (so_268 h0 g _) rfl cf_X11_laysShades wq1588 wq139 wq1586 (c_X11_laysShades l D g T h0 s36 hW.2.1 x51 rx51 0 (by decide) q41 q42 q43 q44) ⟨rfl, rfl, ⟨by decide, by decide⟩, ⟨by decide, by decide⟩⟩ rfl rfl (Nat.le_of_ble_eq_true rfl) dX11_shadesGo_61) hW (fun s53 H locs hp54 hW => ?_)
  obtain ⟨fs53, hp54⟩ := hp54
  have hF55 := hF50.call fs53 (fun k h => by omega)
  have q56 : s53 268 41 = 0 := (congrFun (fs53 _ (by omega)) _).trans q37
  have q57 : s53 268 42 = 0 := (congrFun (fs53 _ (by omega)) _).trans q38
  have q58 : s53 268 43 = (x34 + 0) := (congrFun (fs53 _ (by omega)) _).trans q39
  have q59 : s53 268 44 = 0 := (congrFun (fs53 _ (by omega)) _).trans q40
  have q60 : s53 268 17 = 0 := (congrFun (fs53 _ (by omega)) _).trans q42
  have q61 : s53 273 = fun _ => (-1) := (fs53 _ (by omega)).trans q43
  have q62 : s53 269 34 = 0 := (congrFun (fs53 _ (by omega)) _).trans q44
  have q63 : s53 269 35 = 0 := (congrFun (fs53 _ (by omega)) _).trans q45
  have q64 : s53 269 36 = 0 := (congrFun (fs53 _ (by omega)) _).trans q46
  have q65 : 0 ≤ s53 269 37 ∧ s53 269 37 ≤ 9999 := by rw [fs53 269 (by omega)]; exact q47
  have q66 : 0 ≤ s53 269 38 ∧ s53 269 38 ≤ 65535 := by rw [fs53 269 (by omega)]; exact q48
  have q67 : s53 269 37 = zm := (congrFun (fs53 _ (by omega)) _).trans q49
  have ghp54 := hp54.2
  refine x_aload_n hx hb hl 2 rfl dX11_shadesGo_64 rfl ?_
  refine x_aload_n hx hb hl 2 rfl dX11_shadesGo_65 rfl ?_
  refine x_get (j := 0) (v := .ref (h0 + 269)) hx hb hown hT hE hW cls_X11 (Or.inl (by decide)) (so_268 h0 g _) (by decide) rfl wq1185 dX11_shadesGo_66 ?_
  refine x_bipush hx hb dX11_shadesGo_69 (by decide) ?_
  refine x_iald hx hb hE hW (Or.inl (by decide)) (sa_269 h0 g _) ⟨by decide, by decide⟩ (by decide) dX11_shadesGo_71 ?_
  refine x_rd hW (fun x68 ex68 rx68 => ?_)
  have fx68 : x68 = zm := by rw [ex68, q67]
  have qx68 : 0 ≤ x68 ∧ x68 ≤ 9999 := by rw [ex68]; exact q65
  refine x_goi (x_runV (As := [.int (xJ x68)]) hx hb hml hown hT hE hW hl.1 (Or.inl (by decide)) (so_268 h0 g _) rfl cf_X11_isNight wq1604 wq143 wq1602 (c_X11_isNight l D g T h0 s53 hW.2.1 x68 rx68 q60) ⟨rfl, rfl, ⟨by decide, by decide⟩, ⟨by decide, by decide⟩⟩ rfl rfl (Nat.le_of_ble_eq_true rfl) dX11_shadesGo_72) hW (fun x69 s70 H locs rx69 hp71 hW => ?_)
  obtain ⟨fs70, hp71⟩ := hp71
  have hF72 := hF55.call fs70 (fun k h => by omega)
  have q73 : s70 268 41 = 0 := (congrFun (fs70 _ (by omega)) _).trans q56
  have q74 : s70 268 42 = 0 := (congrFun (fs70 _ (by omega)) _).trans q57
  have q75 : s70 268 43 = (x34 + 0) := (congrFun (fs70 _ (by omega)) _).trans q58
  have q76 : s70 268 44 = 0 := (congrFun (fs70 _ (by omega)) _).trans q59
  have q77 : s70 268 17 = 0 := (congrFun (fs70 _ (by omega)) _).trans q60
  have q78 : s70 273 = fun _ => (-1) := (fs70 _ (by omega)).trans q61
  have q79 : s70 269 34 = 0 := (congrFun (fs70 _ (by omega)) _).trans q62
  have q80 : s70 269 35 = 0 := (congrFun (fs70 _ (by omega)) _).trans q63
  have q81 : s70 269 36 = 0 := (congrFun (fs70 _ (by omega)) _).trans q64
  have q82 : 0 ≤ s70 269 37 ∧ s70 269 37 ≤ 9999 := by rw [fs70 269 (by omega)]; exact q65
  have q83 : 0 ≤ s70 269 38 ∧ s70 269 38 ≤ 65535 := by rw [fs70 269 (by omega)]; exact q66
  have q84 : s70 269 37 = zm := (congrFun (fs70 _ (by omega)) _).trans q67
  have q85 : s70 295 = fun _ => 0 := (fs70 _ (by omega)).trans hp54.1.1
  have ghp71 := hp71
  refine lv_istore_n (lv' := [(3, .int (xJ x69)), (2, .int (xJ 0)), (1, .int (xJ x1)), (0, .ref (h0 + 268))]) hx hb dX11_shadesGo_75 rfl hl (by decide) rfl (fun ls hl => ?_)
  refine x_iconst hx hb dX11_shadesGo_76 ?_
  refine lv_istore (lv' := [(4, .int (xJ 0)), (3, .int (xJ x69)), (2, .int (xJ 0)), (1, .int (xJ x1)), (0, .ref (h0 + 268))]) hx hb dX11_shadesGo_77 hl (by decide) rfl (fun ls hl => ?_)
  have L79 : ∀ (fu : Nat) (i4_79 : Int) (s_79 : xS) (H : Heap) (locs : List Loc) (ls : Array Slot), (xR i4_79) → (xFr (fun k => k = 268 ∨ k = 269 ∨ k = 294 ∨ k = 295 ∨ k = 299) s0 s_79) → (s_79 268 41 = 0) → (s_79 268 42 = 0) → (s_79 268 43 = (x34 + 0)) → (s_79 268 44 = 0) → (s_79 268 17 = 0) → (s_79 273 = fun _ => (-1)) → (s_79 269 34 = 0) → (s_79 269 35 = 0) → (s_79 269 36 = 0) → (0 ≤ s_79 269 37 ∧ s_79 269 37 ≤ 9999) → (0 ≤ s_79 269 38 ∧ s_79 269 38 ≤ 65535) → (s_79 269 37 = zm) → (s_79 295 = fun _ => 0) → (0 ≤ i4_79) → (100 - i4_79).toNat < fu → xW D g h0 s H locs s_79 → lv_has ls 6 [(0, .ref (h0 + 268)), (4, .int (xJ i4_79))] → W p l e { frames := 4, cells := 0, slots := 0, locals := 86 } s m args below meth c H locs 0 0 Q (F0 m 79 ls []) := by
    intro fu
    induction fu with
    | zero => intro i4_79 s_79 H locs ls ri4_79 hF_79 q79_0 q79_1 q79_2 q79_3 q79_4 q79_5 q79_6 q79_7 q79_8 q79_9 q79_10 q79_11 q79_12 v79_0 hm; exact absurd hm (Nat.not_lt_zero _)
    | succ fu ih79 =>
      intro i4_79 s_79 H locs ls ri4_79 hF_79 q79_0 q79_1 q79_2 q79_3 q79_4 q79_5 q79_6 q79_7 q79_8 q79_9 q79_10 q79_11 q79_12 v79_0 hm hW hl
      refine x_iload hx hb hl 1 rfl dX11_shadesGo_79 ?_
      refine x_bipush hx hb dX11_shadesGo_81 (by decide) ?_
      refine x_icmp_ge (tgt := 100) hx hb ri4_79 (by decide) dX11_shadesGo_83 (by decide) (fun c86 => ?_) (fun c86 => ?_)
      · skip
        refine x_aload_n hx hb hl 0 rfl dX11_shadesGo_100 rfl ?_
        refine x_goi (x_runV (As := []) hx hb hml hown hT hE hW hl.1 (Or.inl (by decide)) (so_268 h0 g _) rfl cf_X11_laysOrder wq1616 wq146 wq1614 (c_X11_laysOrder l D g T h0 s_79 hW.2.1 q79_7) ⟨rfl, rfl, ⟨by decide, by decide⟩, ⟨by decide, by decide⟩⟩ rfl rfl (Nat.le_of_ble_eq_true rfl) dX11_shadesGo_101) hW (fun x87 s88 H locs rx87 hp89 hW => ?_)
        obtain ⟨es88, hp89⟩ := hp89
        subst es88
        have ghp89 := hp89
        refine lv_istore (lv' := [(4, .int (xJ x87)), (0, .ref (h0 + 268))]) hx hb dX11_shadesGo_104 hl (by decide) rfl (fun ls hl => ?_)
        refine x_iconst hx hb dX11_shadesGo_106 ?_
        refine lv_istore (lv' := [(5, .int (xJ 0)), (4, .int (xJ x87)), (0, .ref (h0 + 268))]) hx hb dX11_shadesGo_107 hl (by decide) rfl (fun ls hl => ?_)
        refine x_iload hx hb hl 0 rfl dX11_shadesGo_109 ?_
        refine x_iload hx hb hl 1 rfl dX11_shadesGo_111 ?_
        refine x_icmp_ge (tgt := 134) hx hb (by decide) rx87 dX11_shadesGo_113 (by decide) (fun c90 => ?_) (fun c90 => False.elim (by omega))
        refine x_aload_n hx hb hl 2 rfl dX11_shadesGo_134 rfl ?_
        refine x_get (j := 0) (v := .ref (h0 + 269)) hx hb hown hT hE hW cls_X11 (Or.inl (by decide)) (so_268 h0 g _) (by decide) rfl wq1185 dX11_shadesGo_135 ?_
        refine x_bipush hx hb dX11_shadesGo_138 (by decide) ?_
        refine x_aload_n hx hb hl 2 rfl dX11_shadesGo_140 rfl ?_
        refine x_get (j := 0) (v := .ref (h0 + 269)) hx hb hown hT hE hW cls_X11 (Or.inl (by decide)) (so_268 h0 g _) (by decide) rfl wq1185 dX11_shadesGo_141 ?_
        refine x_bipush hx hb dX11_shadesGo_144 (by decide) ?_
        refine x_iald hx hb hE hW (Or.inl (by decide)) (sa_269 h0 g _) ⟨by decide, by decide⟩ (by decide) dX11_shadesGo_146 ?_
        refine x_rd hW (fun x91 ex91 rx91 => ?_)
        have fx91 : x91 = zm := by rw [ex91, q79_11]
        have qx91 : 0 ≤ x91 ∧ x91 ≤ 9999 := by rw [ex91]; exact q79_9
        refine x_iconst hx hb dX11_shadesGo_147 ?_
        refine x_iadd hx hb dX11_shadesGo_148 ?_
        refine x_iast hx hb hE hW (by decide) (fun σ => sa_269 h0 g σ) ⟨by decide, by decide⟩ (by decide) (by omega) dX11_shadesGo_149 (fun H locs s92 es92 hW => ?_)
        have q93 : s92 268 41 = 0 := by rw [es92, xU_k _ _ _ (by omega)]; exact q79_0
        have q94 : s92 268 42 = 0 := by rw [es92, xU_k _ _ _ (by omega)]; exact q79_1
        have q95 : s92 268 43 = (x34 + 0) := by rw [es92, xU_k _ _ _ (by omega)]; exact q79_2
        have q96 : s92 268 44 = 0 := by rw [es92, xU_k _ _ _ (by omega)]; exact q79_3
        have q97 : s92 268 17 = 0 := by rw [es92, xU_k _ _ _ (by omega)]; exact q79_4
        have q98 : s92 273 = fun _ => (-1) := by rw [es92, xU_k _ _ _ (by omega)]; exact q79_5
        have q99 : s92 269 34 = 0 := by rw [es92, xU_j _ _ (by decide)]; exact q79_6
        have q100 : s92 269 35 = 0 := by rw [es92, xU_j _ _ (by decide)]; exact q79_7
        have q101 : s92 269 36 = 0 := by rw [es92, xU_j _ _ (by decide)]; exact q79_8
        have q102 : 0 ≤ s92 269 37 ∧ s92 269 37 ≤ 9999 := by rw [es92, xU_s]; omega
        have q103 : 0 ≤ s92 269 38 ∧ s92 269 38 ≤ 65535 := by rw [es92, xU_j _ _ (by decide)]; exact q79_10
        have q104 : s92 269 37 = (x91 + 1) := by rw [es92, xU_s]
        have q105 : s92 295 = fun _ => 0 := by rw [es92, xU_k _ _ _ (by omega)]; exact q79_12
        have hF106 := hF_79.put es92 (by omega)
        rw [eQ]
        exact x_vret hx hb hr hlk hW ⟨hF106, ⟨q99, q100, q101, q102, q103, q93, q94, (by rw [q95]; omega), q96, q105, q97, trivial⟩, trivial⟩ dX11_shadesGo_150
      refine x_aload_n hx hb hl 0 rfl dX11_shadesGo_86 rfl ?_
      refine x_get (j := 49) (v := .ref (h0 + 299)) hx hb hown hT hE hW cls_X11 (Or.inl (by decide)) (so_268 h0 g _) (by decide) rfl wq1234 dX11_shadesGo_87 ?_
      refine x_iload hx hb hl 1 rfl dX11_shadesGo_90 ?_
      refine x_iconst hx hb dX11_shadesGo_92 ?_
      refine x_zast hx hb hE hW (by decide) (fun σ => sa_299 h0 g σ) (by omega) (by decide) (by omega) dX11_shadesGo_93 (fun H locs s107 es107 hW => ?_)
      have q108 : s107 268 41 = 0 := by rw [es107, xU_k _ _ _ (by omega)]; exact q79_0
      have q109 : s107 268 42 = 0 := by rw [es107, xU_k _ _ _ (by omega)]; exact q79_1
      have q110 : s107 268 43 = (x34 + 0) := by rw [es107, xU_k _ _ _ (by omega)]; exact q79_2
      have q111 : s107 268 44 = 0 := by rw [es107, xU_k _ _ _ (by omega)]; exact q79_3
      have q112 : s107 268 17 = 0 := by rw [es107, xU_k _ _ _ (by omega)]; exact q79_4
      have q113 : s107 273 = fun _ => (-1) := by rw [es107, xU_k _ _ _ (by omega)]; exact q79_5
      have q114 : s107 269 34 = 0 := by rw [es107, xU_k _ _ _ (by omega)]; exact q79_6
      have q115 : s107 269 35 = 0 := by rw [es107, xU_k _ _ _ (by omega)]; exact q79_7
      have q116 : s107 269 36 = 0 := by rw [es107, xU_k _ _ _ (by omega)]; exact q79_8
      have q117 : 0 ≤ s107 269 37 ∧ s107 269 37 ≤ 9999 := by rw [es107, xU_k _ _ _ (by omega)]; exact q79_9
      have q118 : 0 ≤ s107 269 38 ∧ s107 269 38 ≤ 65535 := by rw [es107, xU_k _ _ _ (by omega)]; exact q79_10
      have q119 : s107 269 37 = zm := by rw [es107, xU_k _ _ _ (by omega)]; exact q79_11
      have q120 : s107 295 = fun _ => 0 := by rw [es107, xU_k _ _ _ (by omega)]; exact q79_12
      have hF121 := hF_79.put es107 (by omega)
      refine x_iinc (lv' := [(4, .int (xJ (i4_79 + 1))), (0, .ref (h0 + 268))]) hx hb hl 1 rfl dX11_shadesGo_94 (by decide) rfl (fun ls hl => ?_)
      refine lv_goto (tgt := 79) hx hb dX11_shadesGo_97 (by decide) ?_
      exact ih79 (i4_79 + 1) s107 H locs ls (by omega) hF121 q108 q109 q110 q111 q112 q113 q114 q115 q116 q117 q118 q119 q120 (by omega) (by omega) hW (lv_sub hl [1, 0] rfl)
  exact L79 ((100 - 0 : Int).toNat + 1) 0 s70 H locs ls (by decide) hF72 q73 q74 q75 q76 q77 q78 q79 q80 q81 q82 q83 q84 q85 (by omega) (Nat.lt_succ_self _) hW (lv_sub hl [4, 0] rfl)
set_option maxHeartbeats 4000000 in
set_option maxRecDepth 100000 in
theorem c_X11_minutesGo (l : Launch) (D : va_G) (g : xG) (T : Nat × Nat × Nat) (h0 : Nat) (s0 : xS) (hσ : xRR s0) (n : Int) (rn : xR n) (p0 : s0 269 34 = 0) (p1 : s0 269 35 = 0) (p2 : s0 269 36 = 0) (p3 : 0 ≤ s0 269 37 ∧ s0 269 37 ≤ 9999) (p4 : 0 ≤ s0 269 38 ∧ s0 269 38 ≤ 65535) (p5 : s0 295 = fun _ => 0) (p6 : s0 268 17 = 0) (p7 : s0 273 = fun _ => (-1)) : Met l yX11_minutesGo (xws yX11_minutesGo cX11_minutesGo 3 none) { frames := 5, cells := 0, slots := 0, locals := 111 } (xP [.ref (h0 + 268), .int (xJ n)] D g T h0 s0) (xQv D g h0 (fun τ => xFr (fun k => k = 268 ∨ k = 269 ∨ k = 294 ∨ k = 295 ∨ k = 299) s0 τ ∧ (((τ 269 34 = 0) ∧ (τ 269 35 = 0) ∧ (τ 269 36 = 0) ∧ (0 ≤ τ 269 37 ∧ τ 269 37 ≤ 9999) ∧ (0 ≤ τ 269 38 ∧ τ 269 38 ≤ 65535) ∧ (τ 268 41 = 0) ∧ (τ 268 42 = 0) ∧ (τ 268 43 = 0) ∧ (τ 268 44 = 0) ∧ (τ 295 = fun _ => 0) ∧ (τ 268 17 = 0) ∧ True) ∧ (True)))) 0 0 (xA h0) := by
  refine x_met hσ (by decide) (Nat.le_of_ble_eq_true rfl) ?_
  intro p e s m args below meth c hx hb hr hml hown hT hlk hnm hE hW ls hl
  have hl : lv_has ls 3 [(0, .ref (h0 + 268)), (1, .int (xJ n))] := hl
  obtain ⟨Q, eQ⟩ : ∃ Q, Q = MQ below (xQv D g h0 (fun τ => xFr (fun k => k = 268 ∨ k = 269 ∨ k = 294 ∨ k = 295 ∨ k = 299) s0 τ ∧ (((τ 269 34 = 0) ∧ (τ 269 35 = 0) ∧ (τ 269 36 = 0) ∧ (0 ≤ τ 269 37 ∧ τ 269 37 ≤ 9999) ∧ (0 ≤ τ 269 38 ∧ τ 269 38 ≤ 65535) ∧ (τ 268 41 = 0) ∧ (τ 268 42 = 0) ∧ (τ 268 43 = 0) ∧ (τ 268 44 = 0) ∧ (τ 295 = fun _ => 0) ∧ (τ 268 17 = 0) ∧ True) ∧ (True)))) args s 0 0 (xA h0) := ⟨_, rfl⟩
  rw [← eQ]
  generalize hHe : ([] : List Loc) = locs at hW ⊢
  obtain ⟨H, eH⟩ : ∃ H, H = s.heap := ⟨_, rfl⟩
  rw [← eH] at hW ⊢
  have hF : xFr (fun k => k = 268 ∨ k = 269 ∨ k = 294 ∨ k = 295 ∨ k = 299) s0 s0 := xFr.rf
  refine x_aload_n hx hb hl 0 rfl dX11_minutesGo_0 rfl ?_
  refine x_gov (x_runV (As := []) hx hb hml hown hT hE hW hl.1 (Or.inl (by decide)) (so_268 h0 g _) rfl cf_X11_begins wq1543 wq131 wq1541 (c_X11_begins l D g T h0 s0 hW.2.1 p6) ⟨rfl, rfl, ⟨by decide, by decide⟩, ⟨by decide, by decide⟩⟩ rfl rfl (Nat.le_of_ble_eq_true rfl) dX11_minutesGo_1) hW (fun s2 H locs hp3 hW => ?_)
  obtain ⟨fs2, hp3⟩ := hp3
  have hF4 := hF.call fs2 (fun k h => by omega)
  have q5 : s2 269 34 = 0 := (congrFun (fs2 _ (by omega)) _).trans p0
  have q6 : s2 269 35 = 0 := (congrFun (fs2 _ (by omega)) _).trans p1
  have q7 : s2 269 36 = 0 := (congrFun (fs2 _ (by omega)) _).trans p2
  have q8 : 0 ≤ s2 269 37 ∧ s2 269 37 ≤ 9999 := by rw [fs2 269 (by omega)]; exact p3
  have q9 : 0 ≤ s2 269 38 ∧ s2 269 38 ≤ 65535 := by rw [fs2 269 (by omega)]; exact p4
  have q10 : s2 295 = fun _ => 0 := (fs2 _ (by omega)).trans p5
  have q11 : s2 273 = fun _ => (-1) := (fs2 _ (by omega)).trans p7
  have ghp3 := hp3.2
  refine x_iconst hx hb dX11_minutesGo_4 ?_
  refine lv_istore_n (lv' := [(2, .int (xJ 0)), (0, .ref (h0 + 268)), (1, .int (xJ n))]) hx hb dX11_minutesGo_5 rfl hl (by decide) rfl (fun ls hl => ?_)
  have L6 : ∀ (fu : Nat) (i2_6 : Int) (s_6 : xS) (H : Heap) (locs : List Loc) (ls : Array Slot), (xR i2_6) → (xFr (fun k => k = 268 ∨ k = 269 ∨ k = 294 ∨ k = 295 ∨ k = 299) s0 s_6) → (s_6 269 34 = 0) → (s_6 269 35 = 0) → (s_6 269 36 = 0) → (0 ≤ s_6 269 37 ∧ s_6 269 37 ≤ 9999) → (0 ≤ s_6 269 38 ∧ s_6 269 38 ≤ 65535) → (s_6 295 = fun _ => 0) → (s_6 273 = fun _ => (-1)) → (s_6 268 41 = 0) → (s_6 268 42 = 0) → (s_6 268 43 = 0) → (s_6 268 44 = 0) → (s_6 268 17 = 0) → (0 ≤ i2_6) → (n - i2_6).toNat < fu → xW D g h0 s H locs s_6 → lv_has ls 3 [(0, .ref (h0 + 268)), (1, .int (xJ n)), (2, .int (xJ i2_6))] → W p l e { frames := 5, cells := 0, slots := 0, locals := 111 } s m args below meth c H locs 0 0 Q (F0 m 6 ls []) := by
    intro fu
    induction fu with
    | zero => intro i2_6 s_6 H locs ls ri2_6 hF_6 q6_0 q6_1 q6_2 q6_3 q6_4 q6_5 q6_6 q6_7 q6_8 q6_9 q6_10 q6_11 v6_0 hm; exact absurd hm (Nat.not_lt_zero _)
    | succ fu ih6 =>
      intro i2_6 s_6 H locs ls ri2_6 hF_6 q6_0 q6_1 q6_2 q6_3 q6_4 q6_5 q6_6 q6_7 q6_8 q6_9 q6_10 q6_11 v6_0 hm hW hl
      refine x_iload_n hx hb hl 2 rfl dX11_minutesGo_6 rfl ?_
      refine x_iload_n hx hb hl 1 rfl dX11_minutesGo_7 rfl ?_
      refine x_icmp_ge (tgt := 44) hx hb ri2_6 rn dX11_minutesGo_8 (by decide) (fun c12 => ?_) (fun c12 => ?_)
      · skip
        rw [eQ]
        exact x_vret hx hb hr hlk hW ⟨hF_6, ⟨q6_0, q6_1, q6_2, q6_3, q6_4, q6_7, q6_8, q6_9, q6_10, q6_5, q6_11, trivial⟩, trivial⟩ dX11_minutesGo_44
      refine x_aload_n hx hb hl 0 rfl dX11_minutesGo_11 rfl ?_
      refine x_get (j := 0) (v := .ref (h0 + 269)) hx hb hown hT hE hW cls_X11 (Or.inl (by decide)) (so_268 h0 g _) (by decide) rfl wq1185 dX11_minutesGo_12 ?_
      refine x_bipush hx hb dX11_minutesGo_15 (by decide) ?_
      refine x_iald hx hb hE hW (Or.inl (by decide)) (sa_269 h0 g _) ⟨by decide, by decide⟩ (by decide) dX11_minutesGo_17 ?_
      refine x_rd hW (fun x13 ex13 rx13 => ?_)
      have qx13 : 0 ≤ x13 ∧ x13 ≤ 9999 := by rw [ex13]; exact q6_3
      have q14 : s_6 269 37 = x13 := ex13.symm
      refine x_sipush hx hb dX11_minutesGo_18 (by decide) ?_
      refine x_icmp_ge (tgt := 44) hx hb rx13 (by decide) dX11_minutesGo_21 (by decide) (fun c15 => ?_) (fun c15 => ?_)
      · skip
        rw [eQ]
        exact x_vret hx hb hr hlk hW ⟨hF_6, ⟨q6_0, q6_1, q6_2, q6_3, q6_4, q6_7, q6_8, q6_9, q6_10, q6_5, q6_11, trivial⟩, trivial⟩ dX11_minutesGo_44
      refine x_aload_n hx hb hl 0 rfl dX11_minutesGo_24 rfl ?_
      refine x_iconst hx hb dX11_minutesGo_25 ?_
      refine x_gov (x_runV (As := [.int (xJ 0)]) hx hb hml hown hT hE hW hl.1 (Or.inl (by decide)) (so_268 h0 g _) rfl cf_X11_walksOn wq1547 wq132 wq1545 (c_X11_walksOn l D g T h0 s_6 hW.2.1 0 (by decide) q6_0) ⟨rfl, rfl, ⟨by decide, by decide⟩, ⟨by decide, by decide⟩⟩ rfl rfl (Nat.le_of_ble_eq_true rfl) dX11_minutesGo_26) hW (fun s17 H locs hp18 hW => ?_)
      obtain ⟨es17, hp18⟩ := hp18
      subst es17
      have ghp18 := hp18
      refine x_aload_n hx hb hl 0 rfl dX11_minutesGo_29 rfl ?_
      refine x_iconst hx hb dX11_minutesGo_30 ?_
      refine x_gov (x_runV (As := [.int (xJ 1)]) hx hb hml hown hT hE hW hl.1 (Or.inl (by decide)) (so_268 h0 g _) rfl cf_X11_walksOn wq1547 wq132 wq1545 (c_X11_walksOn l D g T h0 s_6 hW.2.1 1 (by decide) q6_0) ⟨rfl, rfl, ⟨by decide, by decide⟩, ⟨by decide, by decide⟩⟩ rfl rfl (Nat.le_of_ble_eq_true rfl) dX11_minutesGo_31) hW (fun s20 H locs hp21 hW => ?_)
      obtain ⟨es20, hp21⟩ := hp21
      subst es20
      have ghp21 := hp21
      refine x_aload_n hx hb hl 0 rfl dX11_minutesGo_34 rfl ?_
      refine x_gov (x_runV (As := []) hx hb hml hown hT hE hW hl.1 (Or.inl (by decide)) (so_268 h0 g _) rfl cf_X11_shadesGo wq1564 wq134 wq1562 (c_X11_shadesGo l D g T h0 s_6 hW.2.1 x13 (by omega) q6_0 q6_1 q6_2 q6_3 q6_4 q6_7 q6_8 q6_9 q6_10 q6_5 q6_11 q6_6 q14) ⟨rfl, rfl, ⟨by decide, by decide⟩, ⟨by decide, by decide⟩⟩ rfl rfl (Nat.le_of_ble_eq_true rfl) dX11_minutesGo_35) hW (fun s23 H locs hp24 hW => ?_)
      obtain ⟨fs23, hp24⟩ := hp24
      have hF25 := hF_6.call fs23 (fun k h => by omega)
      have q26 : s23 273 = fun _ => (-1) := (fs23 _ (by omega)).trans q6_6
      have ghp24 := hp24.2
      refine x_iinc (lv' := [(2, .int (xJ (i2_6 + 1))), (0, .ref (h0 + 268)), (1, .int (xJ n))]) hx hb hl 2 rfl dX11_minutesGo_38 (by decide) rfl (fun ls hl => ?_)
      refine lv_goto (tgt := 6) hx hb dX11_minutesGo_41 (by decide) ?_
      exact ih6 (i2_6 + 1) s23 H locs ls (by omega) hF25 hp24.1.1 hp24.1.2.1 hp24.1.2.2.1 hp24.1.2.2.2.1 hp24.1.2.2.2.2.1 hp24.1.2.2.2.2.2.2.2.2.2.1 q26 hp24.1.2.2.2.2.2.1 hp24.1.2.2.2.2.2.2.1 hp24.1.2.2.2.2.2.2.2.1 hp24.1.2.2.2.2.2.2.2.2.1 hp24.1.2.2.2.2.2.2.2.2.2.2.1 (by omega) (by omega) hW (lv_sub hl [1, 2, 0] rfl)
  exact L6 ((n - 0 : Int).toNat + 1) 0 s2 H locs ls (by decide) hF4 q5 q6 q7 q8 q9 q10 q11 hp3.1.1 hp3.1.2.1 hp3.1.2.2.1 hp3.1.2.2.2.1 hp3.1.2.2.2.2.1 (by omega) (Nat.lt_succ_self _) hW (lv_sub hl [1, 2, 0] rfl)
set_option maxHeartbeats 4000000 in
set_option maxRecDepth 100000 in
theorem c_X11_minutes (l : Launch) (D : va_G) (g : xG) (T : Nat × Nat × Nat) (h0 : Nat) (s0 : xS) (hσ : xRR s0) (n : Int) (rn : xR n) (p0 : s0 269 34 = 0) (p1 : s0 269 35 = 0) (p2 : s0 269 36 = 0) (p3 : 0 ≤ s0 269 37 ∧ s0 269 37 ≤ 9999) (p4 : 0 ≤ s0 269 38 ∧ s0 269 38 ≤ 65535) (p5 : s0 295 = fun _ => 0) (p6 : s0 268 17 = 0) (p7 : s0 273 = fun _ => (-1)) : Met l yX11_minutes (xws yX11_minutes cX11_minutes 2 (some .int)) { frames := 6, cells := 0, slots := 0, locals := 133 } (xP [.ref (h0 + 268), .int (xJ n)] D g T h0 s0) (xQi D g h0 (fun r τ => xFr (fun k => k = 268 ∨ k = 269 ∨ k = 294 ∨ k = 295 ∨ k = 299) s0 τ ∧ ((r = 0 ∧ 1 ≤ n ∧ n ≤ 120) ∨ (r = -1 ∧ (n < 1 ∨ 120 < n))))) 0 0 (xA h0) := by
  refine x_met hσ (by decide) (Nat.le_of_ble_eq_true rfl) ?_
  intro p e s m args below meth c hx hb hr hml hown hT hlk hnm hE hW ls hl
  have hl : lv_has ls 2 [(0, .ref (h0 + 268)), (1, .int (xJ n))] := hl
  obtain ⟨Q, eQ⟩ : ∃ Q, Q = MQ below (xQi D g h0 (fun r τ => xFr (fun k => k = 268 ∨ k = 269 ∨ k = 294 ∨ k = 295 ∨ k = 299) s0 τ ∧ ((r = 0 ∧ 1 ≤ n ∧ n ≤ 120) ∨ (r = -1 ∧ (n < 1 ∨ 120 < n))))) args s 0 0 (xA h0) := ⟨_, rfl⟩
  rw [← eQ]
  generalize hHe : ([] : List Loc) = locs at hW ⊢
  obtain ⟨H, eH⟩ : ∃ H, H = s.heap := ⟨_, rfl⟩
  rw [← eH] at hW ⊢
  have hF : xFr (fun k => k = 268 ∨ k = 269 ∨ k = 294 ∨ k = 295 ∨ k = 299) s0 s0 := xFr.rf
  refine x_iload_n hx hb hl 1 rfl dX11_minutes_0 rfl ?_
  refine x_iconst hx hb dX11_minutes_1 ?_
  refine x_bipush hx hb dX11_minutes_2 (by decide) ?_
  refine x_goi (x_runS (As := [.int (xJ n), .int (xJ 1), .int (xJ 120)]) hx hb hml hown hT hE hW hl.1 cf_X11_in wq1383 wq1382 (c_X11_in l D g T h0 s0 hW.2.1 n rn 1 (by decide) 120 (by decide)) ⟨rfl, rfl, ⟨by decide, by decide⟩, ⟨by decide, by decide⟩⟩ rfl rfl (Nat.le_of_ble_eq_true rfl) dX11_minutes_4) hW (fun x1 s2 H locs rx1 hp3 hW => ?_)
  obtain ⟨es2, hp3⟩ := hp3
  subst es2
  have ghp3 := hp3
  refine x_if_ne (tgt := 12) hx hb rx1 dX11_minutes_7 (by decide) (fun c4 => ?_) (fun c4 => ?_)
  · skip
    refine x_aload_n hx hb hl 0 rfl dX11_minutes_12 rfl ?_
    refine x_iload_n hx hb hl 1 rfl dX11_minutes_13 rfl ?_
    refine x_gov (x_runV (As := [.int (xJ n)]) hx hb hml hown hT hE hW hl.1 (Or.inl (by decide)) (so_268 h0 g _) rfl cf_X11_minutesGo wq1539 wq130 wq1537 (c_X11_minutesGo l D g T h0 s0 hW.2.1 n rn p0 p1 p2 p3 p4 p5 p6 p7) ⟨rfl, rfl, ⟨by decide, by decide⟩, ⟨by decide, by decide⟩⟩ rfl rfl (Nat.le_of_ble_eq_true rfl) dX11_minutes_14) hW (fun s6 H locs hp7 hW => ?_)
    obtain ⟨fs6, hp7⟩ := hp7
    have hF8 := hF.call fs6 (fun k h => by omega)
    have q9 : s6 273 = fun _ => (-1) := (fs6 _ (by omega)).trans p7
    have ghp7 := hp7.2
    refine x_aload_n hx hb hl 0 rfl dX11_minutes_17 rfl ?_
    refine x_get (j := 41) (v := .int (xJ (s6 268 41))) hx hb hown hT hE hW cls_X11 (Or.inl (by decide)) (so_268 h0 g _) (by decide) rfl wq1226 dX11_minutes_18 ?_
    refine x_rd hW (fun x10 ex10 rx10 => ?_)
    have fx10 : x10 = 0 := by rw [ex10, hp7.1.2.2.2.2.2.1]
    rw [eQ]
    exact x_iret hx hb hr hlk hW rx10 ⟨hF8, by omega⟩ dX11_minutes_21
  refine x_iconst hx hb dX11_minutes_10 ?_
  rw [eQ]
  exact x_iret hx hb hr hlk hW (by decide) ⟨hF, by omega⟩ dX11_minutes_11
