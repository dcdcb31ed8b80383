theorem xmuls {a b : Int} (ha : 0 ≤ a ∧ a ≤ 9) : 0 < b ∨ a * b ≤ 0 := by
  rcases (by omega : a = 0 ∨ a = 1 ∨ a = 2 ∨ a = 3 ∨ a = 4 ∨ a = 5 ∨ a = 6 ∨ a = 7 ∨ a = 8 ∨ a = 9) with rfl | rfl | rfl | rfl | rfl | rfl | rfl | rfl | rfl | rfl <;> omega
set_option maxHeartbeats 4000000 in
set_option maxRecDepth 100000 in
theorem c_X9_stepOf (l : Launch) (D : va_G) (g : xG) (T : Nat × Nat × Nat) (h0 : Nat) (s0 : xS) (hσ : xRR s0) (x : Int) (rx : xR x) : Met l yX9_stepOf (xws yX9_stepOf cX9_stepOf 1 (some .int)) { frames := 0, cells := 0, slots := 0, locals := 0 } (xP [.int (xJ x)] D g T h0 s0) (xQi D g h0 (fun r τ => s0 = τ ∧ (r = -1 ∨ (0 ≤ r ∧ r ≤ 4 ∧ 46 ≤ x)))) 0 0 (xA h0) := by
  refine x_met hσ (by decide) (Nat.le_of_ble_eq_true rfl) ?_
  intro p e s m args below meth c hx hb hr hml hown hT hlk hnm hE hW ls hl
  have hl : lv_has ls 1 [(0, .int (xJ x))] := hl
  obtain ⟨Q, eQ⟩ : ∃ Q, Q = MQ below (xQi D g h0 (fun r τ => s0 = τ ∧ (r = -1 ∨ (0 ≤ r ∧ r ≤ 4 ∧ 46 ≤ x)))) args s 0 0 (xA h0) := ⟨_, rfl⟩
  rw [← eQ]
  generalize hHe : ([] : List Loc) = locs at hW ⊢
  obtain ⟨H, eH⟩ : ∃ H, H = s.heap := ⟨_, rfl⟩
  rw [← eH] at hW ⊢
  refine x_iload_n hx hb hl 0 rfl dX9_stepOf_0 rfl ?_
  rcases (show (x ≠ 46 ∧ x ≠ 101 ∧ x ≠ 110 ∧ x ≠ 115 ∧ x ≠ 119) ∨ x = 46 ∨ x = 101 ∨ x = 110 ∨ x = 115 ∨ x = 119 from by omega) with c1 | c1 | c1 | c1 | c1 | c1
  · refine x_look (tgt := 62) (off := 61) hx hb rx dX9_stepOf_1 rfl (xlk_n (by simp; omega)) (by decide) ?_
    refine x_iconst hx hb dX9_stepOf_62 ?_
    rw [eQ]
    exact x_iret hx hb hr hlk hW (by decide) ⟨rfl, by omega⟩ dX9_stepOf_63
  · refine x_look (tgt := 60) (off := 59) hx hb rx dX9_stepOf_1 rfl (by rw [c1]; rfl) (by decide) ?_
    refine x_iconst hx hb dX9_stepOf_60 ?_
    rw [eQ]
    exact x_iret hx hb hr hlk hW (by decide) ⟨rfl, by omega⟩ dX9_stepOf_61
  · refine x_look (tgt := 54) (off := 53) hx hb rx dX9_stepOf_1 rfl (by rw [c1]; rfl) (by decide) ?_
    refine x_iconst hx hb dX9_stepOf_54 ?_
    rw [eQ]
    exact x_iret hx hb hr hlk hW (by decide) ⟨rfl, by omega⟩ dX9_stepOf_55
  · refine x_look (tgt := 52) (off := 51) hx hb rx dX9_stepOf_1 rfl (by rw [c1]; rfl) (by decide) ?_
    refine x_iconst hx hb dX9_stepOf_52 ?_
    rw [eQ]
    exact x_iret hx hb hr hlk hW (by decide) ⟨rfl, by omega⟩ dX9_stepOf_53
  · refine x_look (tgt := 56) (off := 55) hx hb rx dX9_stepOf_1 rfl (by rw [c1]; rfl) (by decide) ?_
    refine x_iconst hx hb dX9_stepOf_56 ?_
    rw [eQ]
    exact x_iret hx hb hr hlk hW (by decide) ⟨rfl, by omega⟩ dX9_stepOf_57
  · refine x_look (tgt := 58) (off := 57) hx hb rx dX9_stepOf_1 rfl (by rw [c1]; rfl) (by decide) ?_
    refine x_iconst hx hb dX9_stepOf_58 ?_
    rw [eQ]
    exact x_iret hx hb hr hlk hW (by decide) ⟨rfl, by omega⟩ dX9_stepOf_59
set_option maxHeartbeats 4000000 in
set_option maxRecDepth 100000 in
theorem c_X9_repeat (l : Launch) (D : va_G) (g : xG) (T : Nat × Nat × Nat) (h0 : Nat) (s0 : xS) (hσ : xRR s0) (a : Int) (ra : xR a) (b : Int) (rb : xR b) (ha0 : 0 ≤ a ∧ a ≤ 60) (hb0 : 0 ≤ b ∧ b ≤ 9) (p0 : IC s0) : Met l yX9_repeat (xws yX9_repeat cX9_repeat 5 (some .boolean)) { frames := 0, cells := 0, slots := 0, locals := 0 } (xP [.ref (h0 + 126), .int (xJ a), .int (xJ b)] D g T h0 s0) (xQi D g h0 (fun r τ => xFr (fun k => k = 126 ∨ k = 127) s0 τ ∧ (((IC τ) ∧ True) ∧ (r = 0 ∨ r = 1)))) 0 0 (xA h0) := by
  refine x_met hσ (by decide) (Nat.le_of_ble_eq_true rfl) ?_
  intro p e s m args below meth c hx hb hr hml hown hT hlk hnm hE hW ls hl
  have hl : lv_has ls 5 [(0, .ref (h0 + 126)), (1, .int (xJ a)), (2, .int (xJ b))] := hl
  obtain ⟨Q, eQ⟩ : ∃ Q, Q = MQ below (xQi D g h0 (fun r τ => xFr (fun k => k = 126 ∨ k = 127) s0 τ ∧ (((IC τ) ∧ True) ∧ (r = 0 ∨ r = 1)))) args s 0 0 (xA h0) := ⟨_, rfl⟩
  rw [← eQ]
  generalize hHe : ([] : List Loc) = locs at hW ⊢
  obtain ⟨H, eH⟩ : ∃ H, H = s.heap := ⟨_, rfl⟩
  rw [← eH] at hW ⊢
  have hF : xFr (fun k => k = 126 ∨ k = 127) s0 s0 := xFr.rf
  have k1_1 : s0 1 1 = s0 1 1 := rfl
  refine x_aload_n hx hb hl 0 rfl dX9_repeat_0 rfl ?_
  refine x_get (j := 2) (v := .int (xJ (s0 126 2))) hx hb hown hT hE hW cls_X9 (Or.inl (by decide)) (so_126 h0 g _) (by decide) rfl wq309 dX9_repeat_1 ?_
  refine x_rd hW (fun x1 ex1 rx1 => ?_)
  have bx1 : 0 ≤ x1 ∧ x1 ≤ 60 := by rw [ex1]; exact IC.y p0
  have q2 : s0 126 2 = x1 := ex1.symm
  refine x_iload_n hx hb hl 1 rfl dX9_repeat_4 rfl ?_
  refine x_isub hx hb dX9_repeat_5 ?_
  refine x_nm (fun x3 ex3 => ?_)
  refine lv_istore_n (lv' := [(3, .int (xJ x3)), (0, .ref (h0 + 126)), (1, .int (xJ a)), (2, .int (xJ b))]) hx hb dX9_repeat_6 rfl hl (by decide) rfl (fun ls hl => ?_)
  refine x_aload_n hx hb hl 1 rfl dX9_repeat_7 rfl ?_
  refine x_get (j := 2) (v := .int (xJ (s0 126 2))) hx hb hown hT hE hW cls_X9 (Or.inl (by decide)) (so_126 h0 g _) (by decide) rfl wq309 dX9_repeat_8 ?_
  refine x_rd hW (fun x4 ex4 rx4 => ?_)
  have bx4 : 0 ≤ x4 ∧ x4 ≤ 60 := by rw [ex4]; exact IC.y p0
  have fx4 : x4 = x1 := ex4.trans q2
  refine x_iload_n hx hb hl 3 rfl dX9_repeat_11 rfl ?_
  refine x_iload_n hx hb hl 0 rfl dX9_repeat_12 rfl ?_
  refine x_imul hx hb dX9_repeat_13 ?_
  have mb := xmulb (by omega : -1 ≤ b ∧ b ≤ 9) (by omega : -60 ≤ x3 ∧ x3 ≤ 60)
  have mc := xmuls (b := x3) hb0
  refine x_iadd hx hb dX9_repeat_14 ?_
  refine x_bipush hx hb dX9_repeat_15 (by decide) ?_
  refine x_icmp_le (tgt := 22) hx hb (by omega) (by decide) dX9_repeat_17 (by decide) (fun c5 => ?_) (fun c5 => ?_)
  · skip
    refine x_iconst hx hb dX9_repeat_22 ?_
    refine lv_istore (lv' := [(4, .int (xJ 0)), (3, .int (xJ x3)), (0, .ref (h0 + 126)), (1, .int (xJ a)), (2, .int (xJ b))]) hx hb dX9_repeat_23 hl (by decide) rfl (fun ls hl => ?_)
    have L25 : ∀ (fu : Nat) (i4_25 : Int) (s_25 : xS) (H : Heap) (locs : List Loc) (ls : Array Slot), (xR i4_25) → (xFr (fun k => k = 126 ∨ k = 127) s0 s_25) → (IC s_25) → (s_25 1 1 = s0 1 1) → (0 ≤ i4_25) → (b * x3 - i4_25).toNat < fu → xW D g h0 s H locs s_25 → lv_has ls 5 [(0, .ref (h0 + 126)), (1, .int (xJ a)), (2, .int (xJ b)), (3, .int (xJ x3)), (4, .int (xJ i4_25))] → W p l e { frames := 0, cells := 0, slots := 0, locals := 0 } s m args below meth c H locs 0 0 Q (F0 m 25 ls []) := by
      intro fu
      induction fu with
      | zero => intro i4_25 s_25 H locs ls ri4_25 hF_25 q25_0 q25_1 v25_0 hm; exact absurd hm (Nat.not_lt_zero _)
      | succ fu ih25 =>
        intro i4_25 s_25 H locs ls ri4_25 hF_25 q25_0 q25_1 v25_0 hm hW hl
        refine x_iload hx hb hl 4 rfl dX9_repeat_25 ?_
        refine x_iload_n hx hb hl 2 rfl dX9_repeat_27 rfl ?_
        refine x_iload_n hx hb hl 3 rfl dX9_repeat_28 rfl ?_
        refine x_imul hx hb dX9_repeat_29 ?_
        refine x_icmp_ge (tgt := 80) hx hb ri4_25 (by omega) dX9_repeat_30 (by decide) (fun c6 => ?_) (fun c6 => ?_)
        · skip
          refine x_iconst hx hb dX9_repeat_80 ?_
          rw [eQ]
          exact x_zret hx hb hr hlk hW (by omega) ⟨hF_25, ⟨q25_0, trivial⟩, by omega⟩ dX9_repeat_81
        refine x_iload_n hx hb hl 1 rfl dX9_repeat_33 rfl ?_
        refine x_if_lt (tgt := 80) hx hb ra dX9_repeat_34 (by decide) (fun c7 => ?_) (fun c7 => ?_)
        · skip
          refine x_iconst hx hb dX9_repeat_80 ?_
          rw [eQ]
          exact x_zret hx hb hr hlk hW (by omega) ⟨hF_25, ⟨q25_0, trivial⟩, by omega⟩ dX9_repeat_81
        refine x_aload_n hx hb hl 0 rfl dX9_repeat_37 rfl ?_
        refine x_get (j := 2) (v := .int (xJ (s_25 126 2))) hx hb hown hT hE hW cls_X9 (Or.inl (by decide)) (so_126 h0 g _) (by decide) rfl wq309 dX9_repeat_38 ?_
        refine x_rd hW (fun x8 ex8 rx8 => ?_)
        have bx8 : 0 ≤ x8 ∧ x8 ≤ 60 := by rw [ex8]; exact IC.y q25_0
        have q9 : s_25 126 2 = x8 := ex8.symm
        refine x_bipush hx hb dX9_repeat_41 (by decide) ?_
        refine x_icmp_ge (tgt := 80) hx hb rx8 (by decide) dX9_repeat_43 (by decide) (fun c10 => ?_) (fun c10 => ?_)
        · skip
          refine x_iconst hx hb dX9_repeat_80 ?_
          rw [eQ]
          exact x_zret hx hb hr hlk hW (by omega) ⟨hF_25, ⟨q25_0, trivial⟩, by omega⟩ dX9_repeat_81
        refine x_aload_n hx hb hl 0 rfl dX9_repeat_46 rfl ?_
        refine x_get (j := 1) (v := .ref (h0 + 127)) hx hb hown hT hE hW cls_X9 (Or.inl (by decide)) (so_126 h0 g _) (by decide) rfl wq308 dX9_repeat_47 ?_
        refine x_aload_n hx hb hl 0 rfl dX9_repeat_50 rfl ?_
        refine x_get (j := 2) (v := .int (xJ (s_25 126 2))) hx hb hown hT hE hW cls_X9 (Or.inl (by decide)) (so_126 h0 g _) (by decide) rfl wq309 dX9_repeat_51 ?_
        refine x_rd hW (fun x11 ex11 rx11 => ?_)
        have bx11 : 0 ≤ x11 ∧ x11 ≤ 60 := by rw [ex11]; exact IC.y q25_0
        have fx11 : x11 = x8 := ex11.trans q9
        refine x_aload_n hx hb hl 0 rfl dX9_repeat_54 rfl ?_
        refine x_get (j := 1) (v := .ref (h0 + 127)) hx hb hown hT hE hW cls_X9 (Or.inl (by decide)) (so_126 h0 g _) (by decide) rfl wq308 dX9_repeat_55 ?_
        refine x_iload_n hx hb hl 1 rfl dX9_repeat_58 rfl ?_
        refine x_iload hx hb hl 4 rfl dX9_repeat_59 ?_
        refine x_iadd hx hb dX9_repeat_61 ?_
        refine x_iald hx hb hE hW (Or.inl (by decide)) (sa_127 h0 g _) (by omega) (by decide) dX9_repeat_62 ?_
        refine x_rd hW (fun x12 ex12 rx12 => ?_)
        refine x_iast hx hb hE hW (by decide) (fun σ => sa_127 h0 g σ) (by omega) (by decide) rx12 dX9_repeat_63 (fun H locs s13 es13 hW => ?_)
        have q14 : IC s13 := by rw [es13]; exact IC_o (by decide) q25_0
        have q15 : s13 1 1 = s0 1 1 := (show s13 1 1 = s_25 1 1 from by rw [es13, xU_k _ _ _ (by omega)]).trans q25_1
        have q16 : s13 126 2 = x8 := (show s13 126 2 = s_25 126 2 from by rw [es13, xU_k _ _ _ (by omega)]).trans q9
        have hF17 := hF_25.put es13 (by omega)
        refine x_aload_n hx hb hl 0 rfl dX9_repeat_64 rfl ?_
        refine lv_dup hx hb dX9_repeat_65 rfl ?_
        refine x_get (j := 2) (v := .int (xJ (s13 126 2))) hx hb hown hT hE hW cls_X9 (Or.inl (by decide)) (so_126 h0 g _) (by decide) rfl wq309 dX9_repeat_66 ?_
        refine x_rd hW (fun x18 ex18 rx18 => ?_)
        have bx18 : 0 ≤ x18 ∧ x18 ≤ 60 := by rw [ex18]; exact IC.y q14
        have fx18 : x18 = x8 := ex18.trans q16
        refine x_iconst hx hb dX9_repeat_69 ?_
        refine x_iadd hx hb dX9_repeat_70 ?_
        refine x_put (j := 2) hx hb hown hT hE hW cls_X9 (by decide) (fun σ => so_126 h0 g σ) (by decide) (st_X9_2 h0 s13 126 (x18 + 1)) (ln_X9_2 h0 _ _) wq309 rfl rfl rfl (by omega) dX9_repeat_71 (fun H locs s19 es19 hW => ?_)
        have q20 : IC s19 := by rw [es19]; exact IC_126 q14 (by omega)
        have q21 : s19 1 1 = s0 1 1 := (show s19 1 1 = s13 1 1 from by rw [es19, xU_k _ _ _ (by omega)]).trans q15
        have q22 : s19 126 2 = (x18 + 1) := by rw [es19, xU_s]
        have hF23 := hF17.put es19 (by omega)
        refine x_iinc (lv' := [(4, .int (xJ (i4_25 + 1))), (0, .ref (h0 + 126)), (1, .int (xJ a)), (2, .int (xJ b)), (3, .int (xJ x3))]) hx hb hl 4 rfl dX9_repeat_74 (by decide) rfl (fun ls hl => ?_)
        refine lv_goto (tgt := 25) hx hb dX9_repeat_77 (by decide) ?_
        exact ih25 (i4_25 + 1) s19 H locs ls (by omega) hF23 q20 q21 (by omega) (by omega) hW (lv_sub hl [1, 2, 3, 4, 0] rfl)
    exact L25 ((b * x3 - 0 : Int).toNat + 1) 0 s0 H locs ls (by decide) hF p0 k1_1 (by omega) (Nat.lt_succ_self _) hW (lv_sub hl [2, 3, 4, 1, 0] rfl)
  refine x_iconst hx hb dX9_repeat_20 ?_
  rw [eQ]
  exact x_zret hx hb hr hlk hW (by omega) ⟨hF, ⟨p0, trivial⟩, by omega⟩ dX9_repeat_21
set_option maxHeartbeats 4000000 in
set_option maxRecDepth 100000 in
theorem c_X9_readStepL2 (l : Launch) (D : va_G) (g : xG) (T : Nat × Nat × Nat) (h0 : Nat) (s0 : xS) (hσ : xRR s0) (q : Int) (rq : xR q) (hq : q = 2) (p0 : IC s0) : Met l yX9_readStep (xws yX9_readStep cX9_readStep 6 (some .boolean)) { frames := 1, cells := 0, slots := 0, locals := 24 } (xP [.ref (h0 + 126), .int (xJ q)] D g T h0 s0) (xQi D g h0 (fun r τ => xFr (fun k => k = 1 ∨ k = 126 ∨ k = 127) s0 τ ∧ (((IC τ) ∧ (τ 1 1 = s0 1 1) ∧ True) ∧ (r = 0 ∨ r = 1)))) 0 0 (xA h0) := by
  refine x_met hσ (by decide) (Nat.le_of_ble_eq_true rfl) ?_
  intro p e s m args below meth c hx hb hr hml hown hT hlk hnm hE hW ls hl
  have hl : lv_has ls 6 [(0, .ref (h0 + 126)), (1, .int (xJ q))] := hl
  obtain ⟨Q, eQ⟩ : ∃ Q, Q = MQ below (xQi D g h0 (fun r τ => xFr (fun k => k = 1 ∨ k = 126 ∨ k = 127) s0 τ ∧ (((IC τ) ∧ (τ 1 1 = s0 1 1) ∧ True) ∧ (r = 0 ∨ r = 1)))) args s 0 0 (xA h0) := ⟨_, rfl⟩
  rw [← eQ]
  generalize hHe : ([] : List Loc) = locs at hW ⊢
  obtain ⟨H, eH⟩ : ∃ H, H = s.heap := ⟨_, rfl⟩
  rw [← eH] at hW ⊢
  have hF : xFr (fun k => k = 1 ∨ k = 126 ∨ k = 127) s0 s0 := xFr.rf
  have k1_1 : s0 1 1 = s0 1 1 := rfl
  refine x_aload_n hx hb hl 0 rfl dX9_readStep_0 rfl ?_
  refine x_get (j := 0) (v := .ref (h0 + 1)) hx hb hown hT hE hW cls_X9 (Or.inl (by decide)) (so_126 h0 g _) (by decide) rfl wq307 dX9_readStep_1 ?_
  refine x_getN (j := 3) (v := .int (xJ (s0 1 3))) hx hb hown hT hE hW cls_X8 (Or.inl (by decide)) (so_1 h0 g _) (by decide) rfl wn202 dX9_readStep_4 ?_
  refine x_rd hW (fun x1 ex1 rx1 => ?_)
  refine lv_istore_n (lv' := [(2, .int (xJ x1)), (0, .ref (h0 + 126)), (1, .int (xJ q))]) hx hb dX9_readStep_7 rfl hl (by decide) rfl (fun ls hl => ?_)
  refine x_aload_n hx hb hl 1 rfl dX9_readStep_8 rfl ?_
  refine x_get (j := 2) (v := .int (xJ (s0 126 2))) hx hb hown hT hE hW cls_X9 (Or.inl (by decide)) (so_126 h0 g _) (by decide) rfl wq309 dX9_readStep_9 ?_
  refine x_rd hW (fun x2 ex2 rx2 => ?_)
  have bx2 : 0 ≤ x2 ∧ x2 ≤ 60 := by rw [ex2]; exact IC.y p0
  have q3 : s0 126 2 = x2 := ex2.symm
  refine lv_istore_n (lv' := [(3, .int (xJ x2)), (2, .int (xJ x1)), (0, .ref (h0 + 126)), (1, .int (xJ q))]) hx hb dX9_readStep_12 rfl hl (by decide) rfl (fun ls hl => ?_)
  refine x_iconst hx hb dX9_readStep_13 ?_
  refine lv_istore (lv' := [(4, .int (xJ 1)), (3, .int (xJ x2)), (2, .int (xJ x1)), (0, .ref (h0 + 126)), (1, .int (xJ q))]) hx hb dX9_readStep_14 hl (by decide) rfl (fun ls hl => ?_)
  refine x_aload_n hx hb hl 3 rfl dX9_readStep_16 rfl ?_
  refine x_get (j := 0) (v := .ref (h0 + 1)) hx hb hown hT hE hW cls_X9 (Or.inl (by decide)) (so_126 h0 g _) (by decide) rfl wq307 dX9_readStep_17 ?_
  refine x_goi (x_runVN (As := []) hx hb hml hown hT hE hW hl.1 (Or.inl (by decide)) (so_1 h0 g _) rfl cf_X8_sign wq581 wq4 wn727 (c_X8_sign l D g T h0 s0 hW.2.1 p0) ⟨rfl, rfl, ⟨by decide, by decide⟩, ⟨by decide, by decide⟩⟩ rfl rfl (Nat.le_of_ble_eq_true rfl) dX9_readStep_20) hW (fun x4 s5 H locs rx4 hp6 hW => ?_)
  obtain ⟨es5, hp6⟩ := hp6
  subst es5
  have ghp6 := hp6
  refine x_bipush hx hb dX9_readStep_23 (by decide) ?_
  have J65 : ∀ (i4_65 : Int) (s_65 : xS) (H : Heap) (locs : List Loc) (ls : Array Slot), (xR i4_65) → (xFr (fun k => k = 1 ∨ k = 126 ∨ k = 127) s0 s_65) → (IC s_65) → (s_65 1 1 = s0 1 1) → (s_65 126 2 = x2) → (1 ≤ i4_65 ∧ i4_65 ≤ 9) → xW D g h0 s H locs s_65 → lv_has ls 6 [(0, .ref (h0 + 126)), (1, .int (xJ q)), (2, .int (xJ x1)), (3, .int (xJ x2)), (4, .int (xJ i4_65))] → W p l e { frames := 1, cells := 0, slots := 0, locals := 24 } s m args below meth c H locs 0 0 Q (F0 m 65 ls []) := by
    intro i4_65 s_65 H locs ls ri4_65 hF_65 q65_0 q65_1 q65_2 v65_0 hW hl
    refine x_aload_n hx hb hl 0 rfl dX9_readStep_65 rfl ?_
    refine x_get (j := 0) (v := .ref (h0 + 1)) hx hb hown hT hE hW cls_X9 (Or.inl (by decide)) (so_126 h0 g _) (by decide) rfl wq307 dX9_readStep_66 ?_
    refine x_goi (x_runVN (As := []) hx hb hml hown hT hE hW hl.1 (Or.inl (by decide)) (so_1 h0 g _) rfl cf_X8_sign wq581 wq4 wn727 (c_X8_sign l D g T h0 s_65 hW.2.1 q65_0) ⟨rfl, rfl, ⟨by decide, by decide⟩, ⟨by decide, by decide⟩⟩ rfl rfl (Nat.le_of_ble_eq_true rfl) dX9_readStep_69) hW (fun x7 s8 H locs rx7 hp9 hW => ?_)
    obtain ⟨es8, hp9⟩ := hp9
    subst es8
    have ghp9 := hp9
    refine x_bipush hx hb dX9_readStep_72 (by decide) ?_
    refine x_icmp_ne (tgt := 166) hx hb rx7 (by decide) dX9_readStep_74 (by decide) (fun c10 => ?_) (fun c10 => ?_)
    · skip
      refine x_aload_n hx hb hl 0 rfl dX9_readStep_166 rfl ?_
      refine x_get (j := 0) (v := .ref (h0 + 1)) hx hb hown hT hE hW cls_X9 (Or.inl (by decide)) (so_126 h0 g _) (by decide) rfl wq307 dX9_readStep_167 ?_
      refine x_goi (x_runVN (As := []) hx hb hml hown hT hE hW hl.1 (Or.inl (by decide)) (so_1 h0 g _) rfl cf_X8_sign wq581 wq4 wn727 (c_X8_sign l D g T h0 s_65 hW.2.1 q65_0) ⟨rfl, rfl, ⟨by decide, by decide⟩, ⟨by decide, by decide⟩⟩ rfl rfl (Nat.le_of_ble_eq_true rfl) dX9_readStep_170) hW (fun x11 s12 H locs rx11 hp13 hW => ?_)
      obtain ⟨es12, hp13⟩ := hp13
      subst es12
      have ghp13 := hp13
      refine x_goi (x_runS (As := [.int (xJ x11)]) hx hb hml hown hT hE hW hl.1 cf_X9_stepOf wq735 wq734 (c_X9_stepOf l D g T h0 s_65 hW.2.1 x11 rx11) ⟨rfl, rfl, ⟨by decide, by decide⟩, ⟨by decide, by decide⟩⟩ rfl rfl (Nat.le_of_ble_eq_true rfl) dX9_readStep_173) hW (fun x14 s15 H locs rx14 hp16 hW => ?_)
      obtain ⟨es15, hp16⟩ := hp16
      subst es15
      have ghp16 := hp16
      refine lv_istore (lv' := [(5, .int (xJ x14)), (0, .ref (h0 + 126)), (1, .int (xJ q)), (2, .int (xJ x1)), (3, .int (xJ x2)), (4, .int (xJ i4_65))]) hx hb dX9_readStep_176 hl (by decide) rfl (fun ls hl => ?_)
      refine x_iload hx hb hl 0 rfl dX9_readStep_178 ?_
      refine x_iconst hx hb dX9_readStep_180 ?_
      refine x_icmp_ne (tgt := 200) hx hb rx14 (by decide) dX9_readStep_181 (by decide) (fun c17 => ?_) (fun c17 => ?_)
      · skip
        refine x_aload_n hx hb hl 1 rfl dX9_readStep_200 rfl ?_
        refine x_get (j := 0) (v := .ref (h0 + 1)) hx hb hown hT hE hW cls_X9 (Or.inl (by decide)) (so_126 h0 g _) (by decide) rfl wq307 dX9_readStep_201 ?_
        refine lv_dup hx hb dX9_readStep_204 rfl ?_
        refine x_getN (j := 3) (v := .int (xJ (s_65 1 3))) hx hb hown hT hE hW cls_X8 (Or.inl (by decide)) (so_1 h0 g _) (by decide) rfl wn202 dX9_readStep_205 ?_
        refine x_rd hW (fun x18 ex18 rx18 => ?_)
        refine x_iconst hx hb dX9_readStep_208 ?_
        refine x_iadd hx hb dX9_readStep_209 ?_
        refine x_putN (j := 3) hx hb hown hT hE hW cls_X8 (by decide) (fun σ => so_1 h0 g σ) (by decide) (st_X8_3 h0 s_65 1 (x18 + 1)) (ln_X8_3 h0 _ _) wn202 rfl rfl rfl (by omega) dX9_readStep_210 (fun H locs s19 es19 hW => ?_)
        have q20 : IC s19 := by rw [es19]; exact IC_1 q65_0 (by omega)
        have q21 : s19 1 1 = s0 1 1 := (show s19 1 1 = s_65 1 1 from by rw [es19, xU_j _ _ (by decide)]).trans q65_1
        have q22 : s19 126 2 = x2 := (show s19 126 2 = s_65 126 2 from by rw [es19, xU_k _ _ _ (by omega)]).trans q65_2
        have hF23 := hF_65.put es19 (by omega)
        refine x_aload_n hx hb hl 1 rfl dX9_readStep_213 rfl ?_
        refine x_get (j := 2) (v := .int (xJ (s19 126 2))) hx hb hown hT hE hW cls_X9 (Or.inl (by decide)) (so_126 h0 g _) (by decide) rfl wq309 dX9_readStep_214 ?_
        refine x_rd hW (fun x24 ex24 rx24 => ?_)
        have bx24 : 0 ≤ x24 ∧ x24 ≤ 60 := by rw [ex24]; exact IC.y q20
        have fx24 : x24 = x2 := ex24.trans q22
        refine x_bipush hx hb dX9_readStep_217 (by decide) ?_
        refine x_icmp_lt (tgt := 233) hx hb rx24 (by decide) dX9_readStep_219 (by decide) (fun c25 => ?_) (fun c25 => ?_)
        · skip
          refine x_aload_n hx hb hl 1 rfl dX9_readStep_233 rfl ?_
          refine x_get (j := 1) (v := .ref (h0 + 127)) hx hb hown hT hE hW cls_X9 (Or.inl (by decide)) (so_126 h0 g _) (by decide) rfl wq308 dX9_readStep_234 ?_
          refine x_aload_n hx hb hl 1 rfl dX9_readStep_237 rfl ?_
          refine x_get (j := 2) (v := .int (xJ (s19 126 2))) hx hb hown hT hE hW cls_X9 (Or.inl (by decide)) (so_126 h0 g _) (by decide) rfl wq309 dX9_readStep_238 ?_
          refine x_rd hW (fun x26 ex26 rx26 => ?_)
          have bx26 : 0 ≤ x26 ∧ x26 ≤ 60 := by rw [ex26]; exact IC.y q20
          have fx26 : x26 = x2 := ex26.trans q22
          refine x_iload hx hb hl 0 rfl dX9_readStep_241 ?_
          refine x_iast hx hb hE hW (by decide) (fun σ => sa_127 h0 g σ) (by omega) (by decide) rx14 dX9_readStep_243 (fun H locs s27 es27 hW => ?_)
          have q28 : IC s27 := by rw [es27]; exact IC_o (by decide) q20
          have q29 : s27 1 1 = s0 1 1 := (show s27 1 1 = s19 1 1 from by rw [es27, xU_k _ _ _ (by omega)]).trans q21
          have q30 : s27 126 2 = x2 := (show s27 126 2 = s19 126 2 from by rw [es27, xU_k _ _ _ (by omega)]).trans q22
          have hF31 := hF23.put es27 (by omega)
          refine x_aload_n hx hb hl 1 rfl dX9_readStep_244 rfl ?_
          refine lv_dup hx hb dX9_readStep_245 rfl ?_
          refine x_get (j := 2) (v := .int (xJ (s27 126 2))) hx hb hown hT hE hW cls_X9 (Or.inl (by decide)) (so_126 h0 g _) (by decide) rfl wq309 dX9_readStep_246 ?_
          refine x_rd hW (fun x32 ex32 rx32 => ?_)
          have bx32 : 0 ≤ x32 ∧ x32 ≤ 60 := by rw [ex32]; exact IC.y q28
          have fx32 : x32 = x2 := ex32.trans q30
          refine x_iconst hx hb dX9_readStep_249 ?_
          refine x_iadd hx hb dX9_readStep_250 ?_
          refine x_put (j := 2) hx hb hown hT hE hW cls_X9 (by decide) (fun σ => so_126 h0 g σ) (by decide) (st_X9_2 h0 s27 126 (x32 + 1)) (ln_X9_2 h0 _ _) wq309 rfl rfl rfl (by omega) dX9_readStep_251 (fun H locs s33 es33 hW => ?_)
          have q34 : IC s33 := by rw [es33]; exact IC_126 q28 (by omega)
          have q35 : s33 1 1 = s0 1 1 := (show s33 1 1 = s27 1 1 from by rw [es33, xU_k _ _ _ (by omega)]).trans q29
          have q36 : s33 126 2 = (x32 + 1) := by rw [es33, xU_s]
          have hF37 := hF31.put es33 (by omega)
          refine x_aload_n hx hb hl 1 rfl dX9_readStep_254 rfl ?_
          refine x_iload_n hx hb hl 4 rfl dX9_readStep_255 rfl ?_
          refine x_iload hx hb hl 5 rfl dX9_readStep_256 ?_
          refine x_iconst hx hb dX9_readStep_258 ?_
          refine x_isub hx hb dX9_readStep_259 ?_
          refine x_goi (x_runV (As := [.int (xJ x2), .int (xJ (i4_65 - 1))]) hx hb hml hown hT hE hW hl.1 (Or.inl (by decide)) (so_126 h0 g _) rfl cf_X9_repeat wq732 wq31 wq730 (c_X9_repeat l D g T h0 s33 hW.2.1 x2 rx2 (i4_65 - 1) (by omega) (by omega) (by omega) q34) ⟨rfl, rfl, ⟨by decide, by decide⟩, ⟨by decide, by decide⟩⟩ rfl rfl (Nat.le_of_ble_eq_true rfl) dX9_readStep_260) hW (fun x38 s39 H locs rx38 hp40 hW => ?_)
          obtain ⟨fs39, hp40⟩ := hp40
          have hF41 := hF37.call fs39 (fun k h => by omega)
          have q42 : s39 1 1 = s0 1 1 := (congrFun (fs39 _ (by omega)) _).trans q35
          have ghp40 := hp40.2
          refine x_if_ne (tgt := 279) hx hb rx38 dX9_readStep_263 (by decide) (fun c43 => ?_) (fun c43 => ?_)
          · skip
            refine x_iconst hx hb dX9_readStep_279 ?_
            refine lv_goto (tgt := 284) hx hb dX9_readStep_280 (by decide) ?_
            rw [eQ]
            exact x_zret hx hb hr hlk hW (by omega) ⟨hF41, ⟨hp40.1.1, q42, trivial⟩, by omega⟩ dX9_readStep_284
          refine x_aload_n hx hb hl 1 rfl dX9_readStep_266 rfl ?_
          refine x_get (j := 0) (v := .ref (h0 + 1)) hx hb hown hT hE hW cls_X9 (Or.inl (by decide)) (so_126 h0 g _) (by decide) rfl wq307 dX9_readStep_267 ?_
          refine x_bipush hx hb dX9_readStep_270 (by decide) ?_
          refine x_iload_n hx hb hl 3 rfl dX9_readStep_272 rfl ?_
          refine x_goi (x_runVN (As := [.int (xJ 6), .int (xJ x1)]) hx hb hml hown hT hE hW hl.1 (Or.inl (by decide)) (so_1 h0 g _) rfl cf_X8_fails wq588 wq5 wn728 (c_X8_fails l D g T h0 s39 hW.2.1 6 (by decide) x1 rx1 hp40.1.1) ⟨rfl, rfl, ⟨by decide, by decide⟩, ⟨by decide, by decide⟩⟩ rfl rfl (Nat.le_of_ble_eq_true rfl) dX9_readStep_273) hW (fun x44 s45 H locs rx44 hp46 hW => ?_)
          obtain ⟨fs45, hp46⟩ := hp46
          have hF47 := hF41.call fs45 (fun k h => by omega)
          have ghp46 := hp46.2
          refine x_if_eq (tgt := 283) hx hb rx44 dX9_readStep_276 (by decide) (fun c48 => ?_) (fun c48 => ?_)
          · skip
            refine x_iconst hx hb dX9_readStep_283 ?_
            rw [eQ]
            exact x_zret hx hb hr hlk hW (by omega) ⟨hF47, ⟨hp46.1.1, (hp46.1.2.1.trans q42), trivial⟩, by omega⟩ dX9_readStep_284
          refine x_iconst hx hb dX9_readStep_279 ?_
          refine lv_goto (tgt := 284) hx hb dX9_readStep_280 (by decide) ?_
          rw [eQ]
          exact x_zret hx hb hr hlk hW (by omega) ⟨hF47, ⟨hp46.1.1, (hp46.1.2.1.trans q42), trivial⟩, by omega⟩ dX9_readStep_284
        refine x_aload_n hx hb hl 1 rfl dX9_readStep_222 rfl ?_
        refine x_get (j := 0) (v := .ref (h0 + 1)) hx hb hown hT hE hW cls_X9 (Or.inl (by decide)) (so_126 h0 g _) (by decide) rfl wq307 dX9_readStep_223 ?_
        refine x_bipush hx hb dX9_readStep_226 (by decide) ?_
        refine x_iload_n hx hb hl 3 rfl dX9_readStep_228 rfl ?_
        refine x_goi (x_runVN (As := [.int (xJ 6), .int (xJ x1)]) hx hb hml hown hT hE hW hl.1 (Or.inl (by decide)) (so_1 h0 g _) rfl cf_X8_fails wq588 wq5 wn728 (c_X8_fails l D g T h0 s19 hW.2.1 6 (by decide) x1 rx1 q20) ⟨rfl, rfl, ⟨by decide, by decide⟩, ⟨by decide, by decide⟩⟩ rfl rfl (Nat.le_of_ble_eq_true rfl) dX9_readStep_229) hW (fun x49 s50 H locs rx49 hp51 hW => ?_)
        obtain ⟨fs50, hp51⟩ := hp51
        have hF52 := hF23.call fs50 (fun k h => by omega)
        have q53 : s50 126 2 = x2 := (congrFun (fs50 _ (by omega)) _).trans q22
        have ghp51 := hp51.2
        rw [eQ]
        exact x_zret hx hb hr hlk hW (by omega) ⟨hF52, ⟨hp51.1.1, (hp51.1.2.1.trans q21), trivial⟩, by omega⟩ dX9_readStep_232
      refine x_aload_n hx hb hl 1 rfl dX9_readStep_184 rfl ?_
      refine x_get (j := 0) (v := .ref (h0 + 1)) hx hb hown hT hE hW cls_X9 (Or.inl (by decide)) (so_126 h0 g _) (by decide) rfl wq307 dX9_readStep_185 ?_
      refine x_iconst hx hb dX9_readStep_188 ?_
      refine x_aload_n hx hb hl 1 rfl dX9_readStep_189 rfl ?_
      refine x_get (j := 0) (v := .ref (h0 + 1)) hx hb hown hT hE hW cls_X9 (Or.inl (by decide)) (so_126 h0 g _) (by decide) rfl wq307 dX9_readStep_190 ?_
      refine x_getN (j := 3) (v := .int (xJ (s_65 1 3))) hx hb hown hT hE hW cls_X8 (Or.inl (by decide)) (so_1 h0 g _) (by decide) rfl wn202 dX9_readStep_193 ?_
      refine x_rd hW (fun x54 ex54 rx54 => ?_)
      refine x_goi (x_runVN (As := [.int (xJ 1), .int (xJ x54)]) hx hb hml hown hT hE hW hl.1 (Or.inl (by decide)) (so_1 h0 g _) rfl cf_X8_fails wq588 wq5 wn728 (c_X8_fails l D g T h0 s_65 hW.2.1 1 (by decide) x54 rx54 q65_0) ⟨rfl, rfl, ⟨by decide, by decide⟩, ⟨by decide, by decide⟩⟩ rfl rfl (Nat.le_of_ble_eq_true rfl) dX9_readStep_196) hW (fun x55 s56 H locs rx55 hp57 hW => ?_)
      obtain ⟨fs56, hp57⟩ := hp57
      have hF58 := hF_65.call fs56 (fun k h => by omega)
      have q59 : s56 126 2 = x2 := (congrFun (fs56 _ (by omega)) _).trans q65_2
      have ghp57 := hp57.2
      rw [eQ]
      exact x_zret hx hb hr hlk hW (by omega) ⟨hF58, ⟨hp57.1.1, (hp57.1.2.1.trans q65_1), trivial⟩, by omega⟩ dX9_readStep_199
    refine x_iload_n hx hb hl 1 rfl dX9_readStep_77 rfl ?_
    refine x_iconst hx hb dX9_readStep_78 ?_
    refine x_icmp_lt (tgt := 98) hx hb rq (by decide) dX9_readStep_79 (by decide) (fun c60 => False.elim (by omega)) (fun c60 => ?_)
    refine x_aload_n hx hb hl 0 rfl dX9_readStep_82 rfl ?_
    refine x_get (j := 0) (v := .ref (h0 + 1)) hx hb hown hT hE hW cls_X9 (Or.inl (by decide)) (so_126 h0 g _) (by decide) rfl wq307 dX9_readStep_83 ?_
    refine x_iconst hx hb dX9_readStep_86 ?_
    refine x_aload_n hx hb hl 0 rfl dX9_readStep_87 rfl ?_
    refine x_get (j := 0) (v := .ref (h0 + 1)) hx hb hown hT hE hW cls_X9 (Or.inl (by decide)) (so_126 h0 g _) (by decide) rfl wq307 dX9_readStep_88 ?_
    refine x_getN (j := 3) (v := .int (xJ (s_65 1 3))) hx hb hown hT hE hW cls_X8 (Or.inl (by decide)) (so_1 h0 g _) (by decide) rfl wn202 dX9_readStep_91 ?_
    refine x_rd hW (fun x61 ex61 rx61 => ?_)
    refine x_goi (x_runVN (As := [.int (xJ 5), .int (xJ x61)]) hx hb hml hown hT hE hW hl.1 (Or.inl (by decide)) (so_1 h0 g _) rfl cf_X8_fails wq588 wq5 wn728 (c_X8_fails l D g T h0 s_65 hW.2.1 5 (by decide) x61 rx61 q65_0) ⟨rfl, rfl, ⟨by decide, by decide⟩, ⟨by decide, by decide⟩⟩ rfl rfl (Nat.le_of_ble_eq_true rfl) dX9_readStep_94) hW (fun x62 s63 H locs rx62 hp64 hW => ?_)
    obtain ⟨fs63, hp64⟩ := hp64
    have hF65 := hF_65.call fs63 (fun k h => by omega)
    have q66 : s63 126 2 = x2 := (congrFun (fs63 _ (by omega)) _).trans q65_2
    have ghp64 := hp64.2
    rw [eQ]
    exact x_zret hx hb hr hlk hW (by omega) ⟨hF65, ⟨hp64.1.1, (hp64.1.2.1.trans q65_1), trivial⟩, by omega⟩ dX9_readStep_97
  refine x_icmp_lt (tgt := 65) hx hb rx4 (by decide) dX9_readStep_25 (by decide) (fun c67 => ?_) (fun c67 => ?_)
  · skip
    exact J65 1 s0 H locs ls (by decide) hF p0 k1_1 q3 (by omega) hW (lv_sub hl [3, 4, 2, 1, 0] rfl)
  refine x_aload_n hx hb hl 3 rfl dX9_readStep_28 rfl ?_
  refine x_get (j := 0) (v := .ref (h0 + 1)) hx hb hown hT hE hW cls_X9 (Or.inl (by decide)) (so_126 h0 g _) (by decide) rfl wq307 dX9_readStep_29 ?_
  refine x_goi (x_runVN (As := []) hx hb hml hown hT hE hW hl.1 (Or.inl (by decide)) (so_1 h0 g _) rfl cf_X8_sign wq581 wq4 wn727 (c_X8_sign l D g T h0 s0 hW.2.1 p0) ⟨rfl, rfl, ⟨by decide, by decide⟩, ⟨by decide, by decide⟩⟩ rfl rfl (Nat.le_of_ble_eq_true rfl) dX9_readStep_32) hW (fun x68 s69 H locs rx68 hp70 hW => ?_)
  obtain ⟨es69, hp70⟩ := hp70
  subst es69
  have ghp70 := hp70
  refine x_bipush hx hb dX9_readStep_35 (by decide) ?_
  refine x_icmp_gt (tgt := 65) hx hb rx68 (by decide) dX9_readStep_37 (by decide) (fun c71 => ?_) (fun c71 => ?_)
  · skip
    exact J65 1 s0 H locs ls (by decide) hF p0 k1_1 q3 (by omega) hW (lv_sub hl [3, 4, 2, 1, 0] rfl)
  refine x_aload_n hx hb hl 3 rfl dX9_readStep_40 rfl ?_
  refine x_get (j := 0) (v := .ref (h0 + 1)) hx hb hown hT hE hW cls_X9 (Or.inl (by decide)) (so_126 h0 g _) (by decide) rfl wq307 dX9_readStep_41 ?_
  refine x_goi (x_runVN (As := []) hx hb hml hown hT hE hW hl.1 (Or.inl (by decide)) (so_1 h0 g _) rfl cf_X8_sign wq581 wq4 wn727 (c_X8_sign l D g T h0 s0 hW.2.1 p0) ⟨rfl, rfl, ⟨by decide, by decide⟩, ⟨by decide, by decide⟩⟩ rfl rfl (Nat.le_of_ble_eq_true rfl) dX9_readStep_44) hW (fun x72 s73 H locs rx72 hp74 hW => ?_)
  obtain ⟨es73, hp74⟩ := hp74
  subst es73
  have ghp74 := hp74
  refine x_bipush hx hb dX9_readStep_47 (by decide) ?_
  refine x_isub hx hb dX9_readStep_49 ?_
  refine x_nm (fun x75 ex75 => ?_)
  refine lv_istore (lv' := [(4, .int (xJ x75)), (3, .int (xJ x2)), (2, .int (xJ x1)), (0, .ref (h0 + 126)), (1, .int (xJ q))]) hx hb dX9_readStep_50 hl (by decide) rfl (fun ls hl => ?_)
  refine x_aload_n hx hb hl 3 rfl dX9_readStep_52 rfl ?_
  refine x_get (j := 0) (v := .ref (h0 + 1)) hx hb hown hT hE hW cls_X9 (Or.inl (by decide)) (so_126 h0 g _) (by decide) rfl wq307 dX9_readStep_53 ?_
  refine lv_dup hx hb dX9_readStep_56 rfl ?_
  refine x_getN (j := 3) (v := .int (xJ (s0 1 3))) hx hb hown hT hE hW cls_X8 (Or.inl (by decide)) (so_1 h0 g _) (by decide) rfl wn202 dX9_readStep_57 ?_
  refine x_rd hW (fun x76 ex76 rx76 => ?_)
  refine x_iconst hx hb dX9_readStep_60 ?_
  refine x_iadd hx hb dX9_readStep_61 ?_
  refine x_putN (j := 3) hx hb hown hT hE hW cls_X8 (by decide) (fun σ => so_1 h0 g σ) (by decide) (st_X8_3 h0 s0 1 (x76 + 1)) (ln_X8_3 h0 _ _) wn202 rfl rfl rfl (by omega) dX9_readStep_62 (fun H locs s77 es77 hW => ?_)
  have q78 : IC s77 := by rw [es77]; exact IC_1 p0 (by omega)
  have q79 : s77 1 1 = s0 1 1 := (show s77 1 1 = s0 1 1 from by rw [es77, xU_j _ _ (by decide)]).trans k1_1
  have q80 : s77 126 2 = x2 := (show s77 126 2 = s0 126 2 from by rw [es77, xU_k _ _ _ (by omega)]).trans q3
  have hF81 := hF.put es77 (by omega)
  exact J65 x75 s77 H locs ls (by omega) hF81 q78 q79 q80 (by omega) hW (lv_sub hl [3, 4, 2, 1, 0] rfl)
set_option maxHeartbeats 4000000 in
set_option maxRecDepth 100000 in
theorem c_X9_readStepsL2 (l : Launch) (D : va_G) (g : xG) (T : Nat × Nat × Nat) (h0 : Nat) (s0 : xS) (hσ : xRR s0) (q : Int) (rq : xR q) (hq : q = 2) (p0 : IC s0) : Met l yX9_readSteps (xws yX9_readSteps cX9_readSteps 4 (some .boolean)) { frames := 2, cells := 0, slots := 0, locals := 49 } (xP [.ref (h0 + 126), .int (xJ q)] D g T h0 s0) (xQi D g h0 (fun r τ => xFr (fun k => k = 1 ∨ k = 126 ∨ k = 127) s0 τ ∧ (((IC τ) ∧ (τ 1 1 = s0 1 1) ∧ True) ∧ (r = 0 ∨ r = 1)))) 0 0 (xA h0) := by
  refine x_met hσ (by decide) (Nat.le_of_ble_eq_true rfl) ?_
  intro p e s m args below meth c hx hb hr hml hown hT hlk hnm hE hW ls hl
  have hl : lv_has ls 4 [(0, .ref (h0 + 126)), (1, .int (xJ q))] := hl
  obtain ⟨Q, eQ⟩ : ∃ Q, Q = MQ below (xQi D g h0 (fun r τ => xFr (fun k => k = 1 ∨ k = 126 ∨ k = 127) s0 τ ∧ (((IC τ) ∧ (τ 1 1 = s0 1 1) ∧ True) ∧ (r = 0 ∨ r = 1)))) args s 0 0 (xA h0) := ⟨_, rfl⟩
  rw [← eQ]
  generalize hHe : ([] : List Loc) = locs at hW ⊢
  obtain ⟨H, eH⟩ : ∃ H, H = s.heap := ⟨_, rfl⟩
  rw [← eH] at hW ⊢
  have hF : xFr (fun k => k = 1 ∨ k = 126 ∨ k = 127) s0 s0 := xFr.rf
  have k1_1 : s0 1 1 = s0 1 1 := rfl
  refine x_iload_n hx hb hl 1 rfl dX9_readSteps_0 rfl ?_
  refine x_if_ne (tgt := 8) hx hb rq dX9_readSteps_1 (by decide) (fun c1 => ?_) (fun c1 => ?_)
  · skip
    refine x_bipush hx hb dX9_readSteps_8 (by decide) ?_
    refine lv_istore_n (lv' := [(2, .int (xJ 41)), (0, .ref (h0 + 126)), (1, .int (xJ q))]) hx hb dX9_readSteps_10 rfl hl (by decide) rfl (fun ls hl => ?_)
    refine x_iconst hx hb dX9_readSteps_11 ?_
    refine lv_istore_n (lv' := [(3, .int (xJ 0)), (2, .int (xJ 41)), (0, .ref (h0 + 126)), (1, .int (xJ q))]) hx hb dX9_readSteps_12 rfl hl (by decide) rfl (fun ls hl => ?_)
    have L13 : ∀ (fu : Nat) (i3_13 : Int) (s_13 : xS) (H : Heap) (locs : List Loc) (ls : Array Slot), (xR i3_13) → (xFr (fun k => k = 1 ∨ k = 126 ∨ k = 127) s0 s_13) → (IC s_13) → (s_13 1 1 = s0 1 1) → (0 ≤ i3_13) → (i3_13 ≤ 80) → (80 + 1 - i3_13).toNat < fu → xW D g h0 s H locs s_13 → lv_has ls 4 [(0, .ref (h0 + 126)), (1, .int (xJ q)), (2, .int (xJ 41)), (3, .int (xJ i3_13))] → W p l e { frames := 2, cells := 0, slots := 0, locals := 49 } s m args below meth c H locs 0 0 Q (F0 m 13 ls []) := by
      intro fu
      induction fu with
      | zero => intro i3_13 s_13 H locs ls ri3_13 hF_13 q13_0 q13_1 v13_0 v13_1 hm; exact absurd hm (Nat.not_lt_zero _)
      | succ fu ih13 =>
        intro i3_13 s_13 H locs ls ri3_13 hF_13 q13_0 q13_1 v13_0 v13_1 hm hW hl
        refine x_iload_n hx hb hl 3 rfl dX9_readSteps_13 rfl ?_
        refine x_bipush hx hb dX9_readSteps_14 (by decide) ?_
        refine x_icmp_ge (tgt := 48) hx hb ri3_13 (by decide) dX9_readSteps_16 (by decide) (fun c2 => ?_) (fun c2 => ?_)
        · skip
          refine x_iconst hx hb dX9_readSteps_48 ?_
          rw [eQ]
          exact x_zret hx hb hr hlk hW (by omega) ⟨hF_13, ⟨q13_0, q13_1, trivial⟩, by omega⟩ dX9_readSteps_49
        refine x_aload_n hx hb hl 0 rfl dX9_readSteps_19 rfl ?_
        refine x_iload_n hx hb hl 1 rfl dX9_readSteps_20 rfl ?_
        refine x_goi (x_runV (As := [.int (xJ q)]) hx hb hml hown hT hE hW hl.1 (Or.inl (by decide)) (so_126 h0 g _) rfl cf_X9_readStep wq725 wq30 wq723 (c_X9_readStepL2 l D g T h0 s_13 hW.2.1 q rq (by omega) q13_0) ⟨rfl, rfl, ⟨by decide, by decide⟩, ⟨by decide, by decide⟩⟩ rfl rfl (Nat.le_of_ble_eq_true rfl) dX9_readSteps_21) hW (fun x3 s4 H locs rx3 hp5 hW => ?_)
        obtain ⟨fs4, hp5⟩ := hp5
        have hF6 := hF_13.call fs4 (fun k h => by omega)
        have ghp5 := hp5.2
        refine x_if_ne (tgt := 29) hx hb rx3 dX9_readSteps_24 (by decide) (fun c7 => ?_) (fun c7 => ?_)
        · skip
          refine x_aload_n hx hb hl 0 rfl dX9_readSteps_29 rfl ?_
          refine x_get (j := 0) (v := .ref (h0 + 1)) hx hb hown hT hE hW cls_X9 (Or.inl (by decide)) (so_126 h0 g _) (by decide) rfl wq307 dX9_readSteps_30 ?_
          refine x_goi (x_runVN (As := []) hx hb hml hown hT hE hW hl.1 (Or.inl (by decide)) (so_1 h0 g _) rfl cf_X8_sign wq581 wq4 wn727 (c_X8_sign l D g T h0 s4 hW.2.1 hp5.1.1) ⟨rfl, rfl, ⟨by decide, by decide⟩, ⟨by decide, by decide⟩⟩ rfl rfl (Nat.le_of_ble_eq_true rfl) dX9_readSteps_33) hW (fun x8 s9 H locs rx8 hp10 hW => ?_)
          obtain ⟨es9, hp10⟩ := hp10
          subst es9
          have ghp10 := hp10
          refine x_iload_n hx hb hl 2 rfl dX9_readSteps_36 rfl ?_
          refine x_icmp_ne (tgt := 42) hx hb rx8 (by decide) dX9_readSteps_37 (by decide) (fun c11 => ?_) (fun c11 => ?_)
          · skip
            refine x_iinc (lv' := [(3, .int (xJ (i3_13 + 1))), (0, .ref (h0 + 126)), (1, .int (xJ q)), (2, .int (xJ 41))]) hx hb hl 3 rfl dX9_readSteps_42 (by decide) rfl (fun ls hl => ?_)
            refine lv_goto (tgt := 13) hx hb dX9_readSteps_45 (by decide) ?_
            exact ih13 (i3_13 + 1) s4 H locs ls (by omega) hF6 hp5.1.1 (hp5.1.2.1.trans q13_1) (by omega) (by omega) (by omega) hW (lv_sub hl [1, 2, 3, 0] rfl)
          refine x_iconst hx hb dX9_readSteps_40 ?_
          rw [eQ]
          exact x_zret hx hb hr hlk hW (by omega) ⟨hF6, ⟨hp5.1.1, (hp5.1.2.1.trans q13_1), trivial⟩, by omega⟩ dX9_readSteps_41
        refine x_iconst hx hb dX9_readSteps_27 ?_
        rw [eQ]
        exact x_zret hx hb hr hlk hW (by omega) ⟨hF6, ⟨hp5.1.1, (hp5.1.2.1.trans q13_1), trivial⟩, by omega⟩ dX9_readSteps_28
    exact L13 ((80 + 1 - 0 : Int).toNat + 1) 0 s0 H locs ls (by decide) hF p0 k1_1 (by omega) (by omega) (Nat.lt_succ_self _) hW (lv_sub hl [2, 3, 1, 0] rfl)
  refine x_iconst hx hb dX9_readSteps_4 ?_
  refine lv_goto (tgt := 10) hx hb dX9_readSteps_5 (by decide) ?_
  refine lv_istore_n (lv' := [(2, .int (xJ (-1))), (0, .ref (h0 + 126)), (1, .int (xJ q))]) hx hb dX9_readSteps_10 rfl hl (by decide) rfl (fun ls hl => ?_)
  refine x_iconst hx hb dX9_readSteps_11 ?_
  refine lv_istore_n (lv' := [(3, .int (xJ 0)), (2, .int (xJ (-1))), (0, .ref (h0 + 126)), (1, .int (xJ q))]) hx hb dX9_readSteps_12 rfl hl (by decide) rfl (fun ls hl => ?_)
  have L13 : ∀ (fu : Nat) (i3_13 : Int) (s_13 : xS) (H : Heap) (locs : List Loc) (ls : Array Slot), (xR i3_13) → (xFr (fun k => k = 1 ∨ k = 126 ∨ k = 127) s0 s_13) → (IC s_13) → (s_13 1 1 = s0 1 1) → (0 ≤ i3_13) → (i3_13 ≤ 80) → (80 + 1 - i3_13).toNat < fu → xW D g h0 s H locs s_13 → lv_has ls 4 [(0, .ref (h0 + 126)), (1, .int (xJ q)), (2, .int (xJ (-1))), (3, .int (xJ i3_13))] → W p l e { frames := 2, cells := 0, slots := 0, locals := 49 } s m args below meth c H locs 0 0 Q (F0 m 13 ls []) := by
    intro fu
    induction fu with
    | zero => intro i3_13 s_13 H locs ls ri3_13 hF_13 q13_0 q13_1 v13_0 v13_1 hm; exact absurd hm (Nat.not_lt_zero _)
    | succ fu ih13 =>
      intro i3_13 s_13 H locs ls ri3_13 hF_13 q13_0 q13_1 v13_0 v13_1 hm hW hl
      refine x_iload_n hx hb hl 3 rfl dX9_readSteps_13 rfl ?_
      refine x_bipush hx hb dX9_readSteps_14 (by decide) ?_
      refine x_icmp_ge (tgt := 48) hx hb ri3_13 (by decide) dX9_readSteps_16 (by decide) (fun c12 => ?_) (fun c12 => ?_)
      · skip
        refine x_iconst hx hb dX9_readSteps_48 ?_
        rw [eQ]
        exact x_zret hx hb hr hlk hW (by omega) ⟨hF_13, ⟨q13_0, q13_1, trivial⟩, by omega⟩ dX9_readSteps_49
      refine x_aload_n hx hb hl 0 rfl dX9_readSteps_19 rfl ?_
      refine x_iload_n hx hb hl 1 rfl dX9_readSteps_20 rfl ?_
      refine x_goi (x_runV (As := [.int (xJ q)]) hx hb hml hown hT hE hW hl.1 (Or.inl (by decide)) (so_126 h0 g _) rfl cf_X9_readStep wq725 wq30 wq723 (c_X9_readStepL2 l D g T h0 s_13 hW.2.1 q rq (by omega) q13_0) ⟨rfl, rfl, ⟨by decide, by decide⟩, ⟨by decide, by decide⟩⟩ rfl rfl (Nat.le_of_ble_eq_true rfl) dX9_readSteps_21) hW (fun x13 s14 H locs rx13 hp15 hW => ?_)
      obtain ⟨fs14, hp15⟩ := hp15
      have hF16 := hF_13.call fs14 (fun k h => by omega)
      have ghp15 := hp15.2
      refine x_if_ne (tgt := 29) hx hb rx13 dX9_readSteps_24 (by decide) (fun c17 => ?_) (fun c17 => ?_)
      · skip
        refine x_aload_n hx hb hl 0 rfl dX9_readSteps_29 rfl ?_
        refine x_get (j := 0) (v := .ref (h0 + 1)) hx hb hown hT hE hW cls_X9 (Or.inl (by decide)) (so_126 h0 g _) (by decide) rfl wq307 dX9_readSteps_30 ?_
        refine x_goi (x_runVN (As := []) hx hb hml hown hT hE hW hl.1 (Or.inl (by decide)) (so_1 h0 g _) rfl cf_X8_sign wq581 wq4 wn727 (c_X8_sign l D g T h0 s14 hW.2.1 hp15.1.1) ⟨rfl, rfl, ⟨by decide, by decide⟩, ⟨by decide, by decide⟩⟩ rfl rfl (Nat.le_of_ble_eq_true rfl) dX9_readSteps_33) hW (fun x18 s19 H locs rx18 hp20 hW => ?_)
        obtain ⟨es19, hp20⟩ := hp20
        subst es19
        have ghp20 := hp20
        refine x_iload_n hx hb hl 2 rfl dX9_readSteps_36 rfl ?_
        refine x_icmp_ne (tgt := 42) hx hb rx18 (by decide) dX9_readSteps_37 (by decide) (fun c21 => ?_) (fun c21 => ?_)
        · skip
          refine x_iinc (lv' := [(3, .int (xJ (i3_13 + 1))), (0, .ref (h0 + 126)), (1, .int (xJ q)), (2, .int (xJ (-1)))]) hx hb hl 3 rfl dX9_readSteps_42 (by decide) rfl (fun ls hl => ?_)
          refine lv_goto (tgt := 13) hx hb dX9_readSteps_45 (by decide) ?_
          exact ih13 (i3_13 + 1) s14 H locs ls (by omega) hF16 hp15.1.1 (hp15.1.2.1.trans q13_1) (by omega) (by omega) (by omega) hW (lv_sub hl [1, 2, 3, 0] rfl)
        refine x_iconst hx hb dX9_readSteps_40 ?_
        rw [eQ]
        exact x_zret hx hb hr hlk hW (by omega) ⟨hF16, ⟨hp15.1.1, (hp15.1.2.1.trans q13_1), trivial⟩, by omega⟩ dX9_readSteps_41
      refine x_iconst hx hb dX9_readSteps_27 ?_
      rw [eQ]
      exact x_zret hx hb hr hlk hW (by omega) ⟨hF16, ⟨hp15.1.1, (hp15.1.2.1.trans q13_1), trivial⟩, by omega⟩ dX9_readSteps_28
  exact L13 ((80 + 1 - 0 : Int).toNat + 1) 0 s0 H locs ls (by decide) hF p0 k1_1 (by omega) (by omega) (Nat.lt_succ_self _) hW (lv_sub hl [2, 3, 1, 0] rfl)
set_option maxHeartbeats 4000000 in
set_option maxRecDepth 100000 in
theorem c_X9_readStepL1 (l : Launch) (D : va_G) (g : xG) (T : Nat × Nat × Nat) (h0 : Nat) (s0 : xS) (hσ : xRR s0) (q : Int) (rq : xR q) (hq : q = 1) (p0 : IC s0) : Met l yX9_readStep (xws yX9_readStep cX9_readStep 6 (some .boolean)) { frames := 3, cells := 0, slots := 0, locals := 72 } (xP [.ref (h0 + 126), .int (xJ q)] D g T h0 s0) (xQi D g h0 (fun r τ => xFr (fun k => k = 1 ∨ k = 126 ∨ k = 127) s0 τ ∧ (((IC τ) ∧ (τ 1 1 = s0 1 1) ∧ True) ∧ (r = 0 ∨ r = 1)))) 0 0 (xA h0) := by
  refine x_met hσ (by decide) (Nat.le_of_ble_eq_true rfl) ?_
  intro p e s m args below meth c hx hb hr hml hown hT hlk hnm hE hW ls hl
  have hl : lv_has ls 6 [(0, .ref (h0 + 126)), (1, .int (xJ q))] := hl
  obtain ⟨Q, eQ⟩ : ∃ Q, Q = MQ below (xQi D g h0 (fun r τ => xFr (fun k => k = 1 ∨ k = 126 ∨ k = 127) s0 τ ∧ (((IC τ) ∧ (τ 1 1 = s0 1 1) ∧ True) ∧ (r = 0 ∨ r = 1)))) args s 0 0 (xA h0) := ⟨_, rfl⟩
  rw [← eQ]
  generalize hHe : ([] : List Loc) = locs at hW ⊢
  obtain ⟨H, eH⟩ : ∃ H, H = s.heap := ⟨_, rfl⟩
  rw [← eH] at hW ⊢
  have hF : xFr (fun k => k = 1 ∨ k = 126 ∨ k = 127) s0 s0 := xFr.rf
  have k1_1 : s0 1 1 = s0 1 1 := rfl
  refine x_aload_n hx hb hl 0 rfl dX9_readStep_0 rfl ?_
  refine x_get (j := 0) (v := .ref (h0 + 1)) hx hb hown hT hE hW cls_X9 (Or.inl (by decide)) (so_126 h0 g _) (by decide) rfl wq307 dX9_readStep_1 ?_
  refine x_getN (j := 3) (v := .int (xJ (s0 1 3))) hx hb hown hT hE hW cls_X8 (Or.inl (by decide)) (so_1 h0 g _) (by decide) rfl wn202 dX9_readStep_4 ?_
  refine x_rd hW (fun x1 ex1 rx1 => ?_)
  refine lv_istore_n (lv' := [(2, .int (xJ x1)), (0, .ref (h0 + 126)), (1, .int (xJ q))]) hx hb dX9_readStep_7 rfl hl (by decide) rfl (fun ls hl => ?_)
  refine x_aload_n hx hb hl 1 rfl dX9_readStep_8 rfl ?_
  refine x_get (j := 2) (v := .int (xJ (s0 126 2))) hx hb hown hT hE hW cls_X9 (Or.inl (by decide)) (so_126 h0 g _) (by decide) rfl wq309 dX9_readStep_9 ?_
  refine x_rd hW (fun x2 ex2 rx2 => ?_)
  have bx2 : 0 ≤ x2 ∧ x2 ≤ 60 := by rw [ex2]; exact IC.y p0
  have q3 : s0 126 2 = x2 := ex2.symm
  refine lv_istore_n (lv' := [(3, .int (xJ x2)), (2, .int (xJ x1)), (0, .ref (h0 + 126)), (1, .int (xJ q))]) hx hb dX9_readStep_12 rfl hl (by decide) rfl (fun ls hl => ?_)
  refine x_iconst hx hb dX9_readStep_13 ?_
  refine lv_istore (lv' := [(4, .int (xJ 1)), (3, .int (xJ x2)), (2, .int (xJ x1)), (0, .ref (h0 + 126)), (1, .int (xJ q))]) hx hb dX9_readStep_14 hl (by decide) rfl (fun ls hl => ?_)
  refine x_aload_n hx hb hl 3 rfl dX9_readStep_16 rfl ?_
  refine x_get (j := 0) (v := .ref (h0 + 1)) hx hb hown hT hE hW cls_X9 (Or.inl (by decide)) (so_126 h0 g _) (by decide) rfl wq307 dX9_readStep_17 ?_
  refine x_goi (x_runVN (As := []) hx hb hml hown hT hE hW hl.1 (Or.inl (by decide)) (so_1 h0 g _) rfl cf_X8_sign wq581 wq4 wn727 (c_X8_sign l D g T h0 s0 hW.2.1 p0) ⟨rfl, rfl, ⟨by decide, by decide⟩, ⟨by decide, by decide⟩⟩ rfl rfl (Nat.le_of_ble_eq_true rfl) dX9_readStep_20) hW (fun x4 s5 H locs rx4 hp6 hW => ?_)
  obtain ⟨es5, hp6⟩ := hp6
  subst es5
  have ghp6 := hp6
  refine x_bipush hx hb dX9_readStep_23 (by decide) ?_
  have J65 : ∀ (i4_65 : Int) (s_65 : xS) (H : Heap) (locs : List Loc) (ls : Array Slot), (xR i4_65) → (xFr (fun k => k = 1 ∨ k = 126 ∨ k = 127) s0 s_65) → (IC s_65) → (s_65 1 1 = s0 1 1) → (s_65 126 2 = x2) → (1 ≤ i4_65 ∧ i4_65 ≤ 9) → xW D g h0 s H locs s_65 → lv_has ls 6 [(0, .ref (h0 + 126)), (1, .int (xJ q)), (2, .int (xJ x1)), (3, .int (xJ x2)), (4, .int (xJ i4_65))] → W p l e { frames := 3, cells := 0, slots := 0, locals := 72 } s m args below meth c H locs 0 0 Q (F0 m 65 ls []) := by
    intro i4_65 s_65 H locs ls ri4_65 hF_65 q65_0 q65_1 q65_2 v65_0 hW hl
    refine x_aload_n hx hb hl 0 rfl dX9_readStep_65 rfl ?_
    refine x_get (j := 0) (v := .ref (h0 + 1)) hx hb hown hT hE hW cls_X9 (Or.inl (by decide)) (so_126 h0 g _) (by decide) rfl wq307 dX9_readStep_66 ?_
    refine x_goi (x_runVN (As := []) hx hb hml hown hT hE hW hl.1 (Or.inl (by decide)) (so_1 h0 g _) rfl cf_X8_sign wq581 wq4 wn727 (c_X8_sign l D g T h0 s_65 hW.2.1 q65_0) ⟨rfl, rfl, ⟨by decide, by decide⟩, ⟨by decide, by decide⟩⟩ rfl rfl (Nat.le_of_ble_eq_true rfl) dX9_readStep_69) hW (fun x7 s8 H locs rx7 hp9 hW => ?_)
    obtain ⟨es8, hp9⟩ := hp9
    subst es8
    have ghp9 := hp9
    refine x_bipush hx hb dX9_readStep_72 (by decide) ?_
    refine x_icmp_ne (tgt := 166) hx hb rx7 (by decide) dX9_readStep_74 (by decide) (fun c10 => ?_) (fun c10 => ?_)
    · skip
      refine x_aload_n hx hb hl 0 rfl dX9_readStep_166 rfl ?_
      refine x_get (j := 0) (v := .ref (h0 + 1)) hx hb hown hT hE hW cls_X9 (Or.inl (by decide)) (so_126 h0 g _) (by decide) rfl wq307 dX9_readStep_167 ?_
      refine x_goi (x_runVN (As := []) hx hb hml hown hT hE hW hl.1 (Or.inl (by decide)) (so_1 h0 g _) rfl cf_X8_sign wq581 wq4 wn727 (c_X8_sign l D g T h0 s_65 hW.2.1 q65_0) ⟨rfl, rfl, ⟨by decide, by decide⟩, ⟨by decide, by decide⟩⟩ rfl rfl (Nat.le_of_ble_eq_true rfl) dX9_readStep_170) hW (fun x11 s12 H locs rx11 hp13 hW => ?_)
      obtain ⟨es12, hp13⟩ := hp13
      subst es12
      have ghp13 := hp13
      refine x_goi (x_runS (As := [.int (xJ x11)]) hx hb hml hown hT hE hW hl.1 cf_X9_stepOf wq735 wq734 (c_X9_stepOf l D g T h0 s_65 hW.2.1 x11 rx11) ⟨rfl, rfl, ⟨by decide, by decide⟩, ⟨by decide, by decide⟩⟩ rfl rfl (Nat.le_of_ble_eq_true rfl) dX9_readStep_173) hW (fun x14 s15 H locs rx14 hp16 hW => ?_)
      obtain ⟨es15, hp16⟩ := hp16
      subst es15
      have ghp16 := hp16
      refine lv_istore (lv' := [(5, .int (xJ x14)), (0, .ref (h0 + 126)), (1, .int (xJ q)), (2, .int (xJ x1)), (3, .int (xJ x2)), (4, .int (xJ i4_65))]) hx hb dX9_readStep_176 hl (by decide) rfl (fun ls hl => ?_)
      refine x_iload hx hb hl 0 rfl dX9_readStep_178 ?_
      refine x_iconst hx hb dX9_readStep_180 ?_
      refine x_icmp_ne (tgt := 200) hx hb rx14 (by decide) dX9_readStep_181 (by decide) (fun c17 => ?_) (fun c17 => ?_)
      · skip
        refine x_aload_n hx hb hl 1 rfl dX9_readStep_200 rfl ?_
        refine x_get (j := 0) (v := .ref (h0 + 1)) hx hb hown hT hE hW cls_X9 (Or.inl (by decide)) (so_126 h0 g _) (by decide) rfl wq307 dX9_readStep_201 ?_
        refine lv_dup hx hb dX9_readStep_204 rfl ?_
        refine x_getN (j := 3) (v := .int (xJ (s_65 1 3))) hx hb hown hT hE hW cls_X8 (Or.inl (by decide)) (so_1 h0 g _) (by decide) rfl wn202 dX9_readStep_205 ?_
        refine x_rd hW (fun x18 ex18 rx18 => ?_)
        refine x_iconst hx hb dX9_readStep_208 ?_
        refine x_iadd hx hb dX9_readStep_209 ?_
        refine x_putN (j := 3) hx hb hown hT hE hW cls_X8 (by decide) (fun σ => so_1 h0 g σ) (by decide) (st_X8_3 h0 s_65 1 (x18 + 1)) (ln_X8_3 h0 _ _) wn202 rfl rfl rfl (by omega) dX9_readStep_210 (fun H locs s19 es19 hW => ?_)
        have q20 : IC s19 := by rw [es19]; exact IC_1 q65_0 (by omega)
        have q21 : s19 1 1 = s0 1 1 := (show s19 1 1 = s_65 1 1 from by rw [es19, xU_j _ _ (by decide)]).trans q65_1
        have q22 : s19 126 2 = x2 := (show s19 126 2 = s_65 126 2 from by rw [es19, xU_k _ _ _ (by omega)]).trans q65_2
        have hF23 := hF_65.put es19 (by omega)
        refine x_aload_n hx hb hl 1 rfl dX9_readStep_213 rfl ?_
        refine x_get (j := 2) (v := .int (xJ (s19 126 2))) hx hb hown hT hE hW cls_X9 (Or.inl (by decide)) (so_126 h0 g _) (by decide) rfl wq309 dX9_readStep_214 ?_
        refine x_rd hW (fun x24 ex24 rx24 => ?_)
        have bx24 : 0 ≤ x24 ∧ x24 ≤ 60 := by rw [ex24]; exact IC.y q20
        have fx24 : x24 = x2 := ex24.trans q22
        refine x_bipush hx hb dX9_readStep_217 (by decide) ?_
        refine x_icmp_lt (tgt := 233) hx hb rx24 (by decide) dX9_readStep_219 (by decide) (fun c25 => ?_) (fun c25 => ?_)
        · skip
          refine x_aload_n hx hb hl 1 rfl dX9_readStep_233 rfl ?_
          refine x_get (j := 1) (v := .ref (h0 + 127)) hx hb hown hT hE hW cls_X9 (Or.inl (by decide)) (so_126 h0 g _) (by decide) rfl wq308 dX9_readStep_234 ?_
          refine x_aload_n hx hb hl 1 rfl dX9_readStep_237 rfl ?_
          refine x_get (j := 2) (v := .int (xJ (s19 126 2))) hx hb hown hT hE hW cls_X9 (Or.inl (by decide)) (so_126 h0 g _) (by decide) rfl wq309 dX9_readStep_238 ?_
          refine x_rd hW (fun x26 ex26 rx26 => ?_)
          have bx26 : 0 ≤ x26 ∧ x26 ≤ 60 := by rw [ex26]; exact IC.y q20
          have fx26 : x26 = x2 := ex26.trans q22
          refine x_iload hx hb hl 0 rfl dX9_readStep_241 ?_
          refine x_iast hx hb hE hW (by decide) (fun σ => sa_127 h0 g σ) (by omega) (by decide) rx14 dX9_readStep_243 (fun H locs s27 es27 hW => ?_)
          have q28 : IC s27 := by rw [es27]; exact IC_o (by decide) q20
          have q29 : s27 1 1 = s0 1 1 := (show s27 1 1 = s19 1 1 from by rw [es27, xU_k _ _ _ (by omega)]).trans q21
          have q30 : s27 126 2 = x2 := (show s27 126 2 = s19 126 2 from by rw [es27, xU_k _ _ _ (by omega)]).trans q22
          have hF31 := hF23.put es27 (by omega)
          refine x_aload_n hx hb hl 1 rfl dX9_readStep_244 rfl ?_
          refine lv_dup hx hb dX9_readStep_245 rfl ?_
          refine x_get (j := 2) (v := .int (xJ (s27 126 2))) hx hb hown hT hE hW cls_X9 (Or.inl (by decide)) (so_126 h0 g _) (by decide) rfl wq309 dX9_readStep_246 ?_
          refine x_rd hW (fun x32 ex32 rx32 => ?_)
          have bx32 : 0 ≤ x32 ∧ x32 ≤ 60 := by rw [ex32]; exact IC.y q28
          have fx32 : x32 = x2 := ex32.trans q30
          refine x_iconst hx hb dX9_readStep_249 ?_
          refine x_iadd hx hb dX9_readStep_250 ?_
          refine x_put (j := 2) hx hb hown hT hE hW cls_X9 (by decide) (fun σ => so_126 h0 g σ) (by decide) (st_X9_2 h0 s27 126 (x32 + 1)) (ln_X9_2 h0 _ _) wq309 rfl rfl rfl (by omega) dX9_readStep_251 (fun H locs s33 es33 hW => ?_)
          have q34 : IC s33 := by rw [es33]; exact IC_126 q28 (by omega)
          have q35 : s33 1 1 = s0 1 1 := (show s33 1 1 = s27 1 1 from by rw [es33, xU_k _ _ _ (by omega)]).trans q29
          have q36 : s33 126 2 = (x32 + 1) := by rw [es33, xU_s]
          have hF37 := hF31.put es33 (by omega)
          refine x_aload_n hx hb hl 1 rfl dX9_readStep_254 rfl ?_
          refine x_iload_n hx hb hl 4 rfl dX9_readStep_255 rfl ?_
          refine x_iload hx hb hl 5 rfl dX9_readStep_256 ?_
          refine x_iconst hx hb dX9_readStep_258 ?_
          refine x_isub hx hb dX9_readStep_259 ?_
          refine x_goi (x_runV (As := [.int (xJ x2), .int (xJ (i4_65 - 1))]) hx hb hml hown hT hE hW hl.1 (Or.inl (by decide)) (so_126 h0 g _) rfl cf_X9_repeat wq732 wq31 wq730 (c_X9_repeat l D g T h0 s33 hW.2.1 x2 rx2 (i4_65 - 1) (by omega) (by omega) (by omega) q34) ⟨rfl, rfl, ⟨by decide, by decide⟩, ⟨by decide, by decide⟩⟩ rfl rfl (Nat.le_of_ble_eq_true rfl) dX9_readStep_260) hW (fun x38 s39 H locs rx38 hp40 hW => ?_)
          obtain ⟨fs39, hp40⟩ := hp40
          have hF41 := hF37.call fs39 (fun k h => by omega)
          have q42 : s39 1 1 = s0 1 1 := (congrFun (fs39 _ (by omega)) _).trans q35
          have ghp40 := hp40.2
          refine x_if_ne (tgt := 279) hx hb rx38 dX9_readStep_263 (by decide) (fun c43 => ?_) (fun c43 => ?_)
          · skip
            refine x_iconst hx hb dX9_readStep_279 ?_
            refine lv_goto (tgt := 284) hx hb dX9_readStep_280 (by decide) ?_
            rw [eQ]
            exact x_zret hx hb hr hlk hW (by omega) ⟨hF41, ⟨hp40.1.1, q42, trivial⟩, by omega⟩ dX9_readStep_284
          refine x_aload_n hx hb hl 1 rfl dX9_readStep_266 rfl ?_
          refine x_get (j := 0) (v := .ref (h0 + 1)) hx hb hown hT hE hW cls_X9 (Or.inl (by decide)) (so_126 h0 g _) (by decide) rfl wq307 dX9_readStep_267 ?_
          refine x_bipush hx hb dX9_readStep_270 (by decide) ?_
          refine x_iload_n hx hb hl 3 rfl dX9_readStep_272 rfl ?_
          refine x_goi (x_runVN (As := [.int (xJ 6), .int (xJ x1)]) hx hb hml hown hT hE hW hl.1 (Or.inl (by decide)) (so_1 h0 g _) rfl cf_X8_fails wq588 wq5 wn728 (c_X8_fails l D g T h0 s39 hW.2.1 6 (by decide) x1 rx1 hp40.1.1) ⟨rfl, rfl, ⟨by decide, by decide⟩, ⟨by decide, by decide⟩⟩ rfl rfl (Nat.le_of_ble_eq_true rfl) dX9_readStep_273) hW (fun x44 s45 H locs rx44 hp46 hW => ?_)
          obtain ⟨fs45, hp46⟩ := hp46
          have hF47 := hF41.call fs45 (fun k h => by omega)
          have ghp46 := hp46.2
          refine x_if_eq (tgt := 283) hx hb rx44 dX9_readStep_276 (by decide) (fun c48 => ?_) (fun c48 => ?_)
          · skip
            refine x_iconst hx hb dX9_readStep_283 ?_
            rw [eQ]
            exact x_zret hx hb hr hlk hW (by omega) ⟨hF47, ⟨hp46.1.1, (hp46.1.2.1.trans q42), trivial⟩, by omega⟩ dX9_readStep_284
          refine x_iconst hx hb dX9_readStep_279 ?_
          refine lv_goto (tgt := 284) hx hb dX9_readStep_280 (by decide) ?_
          rw [eQ]
          exact x_zret hx hb hr hlk hW (by omega) ⟨hF47, ⟨hp46.1.1, (hp46.1.2.1.trans q42), trivial⟩, by omega⟩ dX9_readStep_284
        refine x_aload_n hx hb hl 1 rfl dX9_readStep_222 rfl ?_
        refine x_get (j := 0) (v := .ref (h0 + 1)) hx hb hown hT hE hW cls_X9 (Or.inl (by decide)) (so_126 h0 g _) (by decide) rfl wq307 dX9_readStep_223 ?_
        refine x_bipush hx hb dX9_readStep_226 (by decide) ?_
        refine x_iload_n hx hb hl 3 rfl dX9_readStep_228 rfl ?_
        refine x_goi (x_runVN (As := [.int (xJ 6), .int (xJ x1)]) hx hb hml hown hT hE hW hl.1 (Or.inl (by decide)) (so_1 h0 g _) rfl cf_X8_fails wq588 wq5 wn728 (c_X8_fails l D g T h0 s19 hW.2.1 6 (by decide) x1 rx1 q20) ⟨rfl, rfl, ⟨by decide, by decide⟩, ⟨by decide, by decide⟩⟩ rfl rfl (Nat.le_of_ble_eq_true rfl) dX9_readStep_229) hW (fun x49 s50 H locs rx49 hp51 hW => ?_)
        obtain ⟨fs50, hp51⟩ := hp51
        have hF52 := hF23.call fs50 (fun k h => by omega)
        have q53 : s50 126 2 = x2 := (congrFun (fs50 _ (by omega)) _).trans q22
        have ghp51 := hp51.2
        rw [eQ]
        exact x_zret hx hb hr hlk hW (by omega) ⟨hF52, ⟨hp51.1.1, (hp51.1.2.1.trans q21), trivial⟩, by omega⟩ dX9_readStep_232
      refine x_aload_n hx hb hl 1 rfl dX9_readStep_184 rfl ?_
      refine x_get (j := 0) (v := .ref (h0 + 1)) hx hb hown hT hE hW cls_X9 (Or.inl (by decide)) (so_126 h0 g _) (by decide) rfl wq307 dX9_readStep_185 ?_
      refine x_iconst hx hb dX9_readStep_188 ?_
      refine x_aload_n hx hb hl 1 rfl dX9_readStep_189 rfl ?_
      refine x_get (j := 0) (v := .ref (h0 + 1)) hx hb hown hT hE hW cls_X9 (Or.inl (by decide)) (so_126 h0 g _) (by decide) rfl wq307 dX9_readStep_190 ?_
      refine x_getN (j := 3) (v := .int (xJ (s_65 1 3))) hx hb hown hT hE hW cls_X8 (Or.inl (by decide)) (so_1 h0 g _) (by decide) rfl wn202 dX9_readStep_193 ?_
      refine x_rd hW (fun x54 ex54 rx54 => ?_)
      refine x_goi (x_runVN (As := [.int (xJ 1), .int (xJ x54)]) hx hb hml hown hT hE hW hl.1 (Or.inl (by decide)) (so_1 h0 g _) rfl cf_X8_fails wq588 wq5 wn728 (c_X8_fails l D g T h0 s_65 hW.2.1 1 (by decide) x54 rx54 q65_0) ⟨rfl, rfl, ⟨by decide, by decide⟩, ⟨by decide, by decide⟩⟩ rfl rfl (Nat.le_of_ble_eq_true rfl) dX9_readStep_196) hW (fun x55 s56 H locs rx55 hp57 hW => ?_)
      obtain ⟨fs56, hp57⟩ := hp57
      have hF58 := hF_65.call fs56 (fun k h => by omega)
      have q59 : s56 126 2 = x2 := (congrFun (fs56 _ (by omega)) _).trans q65_2
      have ghp57 := hp57.2
      rw [eQ]
      exact x_zret hx hb hr hlk hW (by omega) ⟨hF58, ⟨hp57.1.1, (hp57.1.2.1.trans q65_1), trivial⟩, by omega⟩ dX9_readStep_199
    refine x_iload_n hx hb hl 1 rfl dX9_readStep_77 rfl ?_
    refine x_iconst hx hb dX9_readStep_78 ?_
    refine x_icmp_lt (tgt := 98) hx hb rq (by decide) dX9_readStep_79 (by decide) (fun c60 => ?_) (fun c60 => False.elim (by omega))
    refine x_aload_n hx hb hl 0 rfl dX9_readStep_98 rfl ?_
    refine x_get (j := 0) (v := .ref (h0 + 1)) hx hb hown hT hE hW cls_X9 (Or.inl (by decide)) (so_126 h0 g _) (by decide) rfl wq307 dX9_readStep_99 ?_
    refine lv_dup hx hb dX9_readStep_102 rfl ?_
    refine x_getN (j := 3) (v := .int (xJ (s_65 1 3))) hx hb hown hT hE hW cls_X8 (Or.inl (by decide)) (so_1 h0 g _) (by decide) rfl wn202 dX9_readStep_103 ?_
    refine x_rd hW (fun x61 ex61 rx61 => ?_)
    refine x_iconst hx hb dX9_readStep_106 ?_
    refine x_iadd hx hb dX9_readStep_107 ?_
    refine x_putN (j := 3) hx hb hown hT hE hW cls_X8 (by decide) (fun σ => so_1 h0 g σ) (by decide) (st_X8_3 h0 s_65 1 (x61 + 1)) (ln_X8_3 h0 _ _) wn202 rfl rfl rfl (by omega) dX9_readStep_108 (fun H locs s62 es62 hW => ?_)
    have q63 : IC s62 := by rw [es62]; exact IC_1 q65_0 (by omega)
    have q64 : s62 1 1 = s0 1 1 := (show s62 1 1 = s_65 1 1 from by rw [es62, xU_j _ _ (by decide)]).trans q65_1
    have q65 : s62 126 2 = x2 := (show s62 126 2 = s_65 126 2 from by rw [es62, xU_k _ _ _ (by omega)]).trans q65_2
    have hF66 := hF_65.put es62 (by omega)
    refine x_aload_n hx hb hl 0 rfl dX9_readStep_111 rfl ?_
    refine x_iload_n hx hb hl 1 rfl dX9_readStep_112 rfl ?_
    refine x_iconst hx hb dX9_readStep_113 ?_
    refine x_iadd hx hb dX9_readStep_114 ?_
    refine x_goi (x_runV (As := [.int (xJ (q + 1))]) hx hb hml hown hT hE hW hl.1 (Or.inl (by decide)) (so_126 h0 g _) rfl cf_X9_readSteps wq721 wq29 wq719 (c_X9_readStepsL2 l D g T h0 s62 hW.2.1 (q + 1) (by omega) (by omega) q63) ⟨rfl, rfl, ⟨by decide, by decide⟩, ⟨by decide, by decide⟩⟩ rfl rfl (Nat.le_of_ble_eq_true rfl) dX9_readStep_115) hW (fun x67 s68 H locs rx67 hp69 hW => ?_)
    obtain ⟨fs68, hp69⟩ := hp69
    have hF70 := hF66.call fs68 (fun k h => by omega)
    have ghp69 := hp69.2
    refine x_if_eq (tgt := 133) hx hb rx67 dX9_readStep_118 (by decide) (fun c71 => ?_) (fun c71 => ?_)
    · skip
      refine x_iconst hx hb dX9_readStep_133 ?_
      rw [eQ]
      exact x_zret hx hb hr hlk hW (by omega) ⟨hF70, ⟨hp69.1.1, (hp69.1.2.1.trans q64), trivial⟩, by omega⟩ dX9_readStep_134
    refine x_aload_n hx hb hl 0 rfl dX9_readStep_121 rfl ?_
    refine x_get (j := 0) (v := .ref (h0 + 1)) hx hb hown hT hE hW cls_X9 (Or.inl (by decide)) (so_126 h0 g _) (by decide) rfl wq307 dX9_readStep_122 ?_
    refine x_bipush hx hb dX9_readStep_125 (by decide) ?_
    refine x_goi (x_runVN (As := [.int (xJ 41)]) hx hb hml hown hT hE hW hl.1 (Or.inl (by decide)) (so_1 h0 g _) rfl cf_X8_passes wq598 wq6 wn729 (c_X8_passes l D g T h0 s68 hW.2.1 41 (by decide) hp69.1.1) ⟨rfl, rfl, ⟨by decide, by decide⟩, ⟨by decide, by decide⟩⟩ rfl rfl (Nat.le_of_ble_eq_true rfl) dX9_readStep_127) hW (fun x72 s73 H locs rx72 hp74 hW => ?_)
    obtain ⟨fs73, hp74⟩ := hp74
    have hF75 := hF70.call fs73 (fun k h => by omega)
    have ghp74 := hp74.2
    refine x_if_ne (tgt := 135) hx hb rx72 dX9_readStep_130 (by decide) (fun c76 => ?_) (fun c76 => ?_)
    · skip
      refine x_aload_n hx hb hl 0 rfl dX9_readStep_135 rfl ?_
      refine x_iload_n hx hb hl 3 rfl dX9_readStep_136 rfl ?_
      refine x_iload hx hb hl 4 rfl dX9_readStep_137 ?_
      refine x_iconst hx hb dX9_readStep_139 ?_
      refine x_isub hx hb dX9_readStep_140 ?_
      refine x_goi (x_runV (As := [.int (xJ x2), .int (xJ (i4_65 - 1))]) hx hb hml hown hT hE hW hl.1 (Or.inl (by decide)) (so_126 h0 g _) rfl cf_X9_repeat wq732 wq31 wq730 (c_X9_repeat l D g T h0 s73 hW.2.1 x2 rx2 (i4_65 - 1) (by omega) (by omega) (by omega) hp74.1.1) ⟨rfl, rfl, ⟨by decide, by decide⟩, ⟨by decide, by decide⟩⟩ rfl rfl (Nat.le_of_ble_eq_true rfl) dX9_readStep_141) hW (fun x77 s78 H locs rx77 hp79 hW => ?_)
      obtain ⟨fs78, hp79⟩ := hp79
      have hF80 := hF75.call fs78 (fun k h => by omega)
      have q81 : s78 1 1 = s0 1 1 := (congrFun (fs78 _ (by omega)) _).trans (hp74.1.2.1.trans (hp69.1.2.1.trans q64))
      have ghp79 := hp79.2
      refine x_if_ne (tgt := 160) hx hb rx77 dX9_readStep_144 (by decide) (fun c82 => ?_) (fun c82 => ?_)
      · skip
        refine x_iconst hx hb dX9_readStep_160 ?_
        refine lv_goto (tgt := 165) hx hb dX9_readStep_161 (by decide) ?_
        rw [eQ]
        exact x_zret hx hb hr hlk hW (by omega) ⟨hF80, ⟨hp79.1.1, q81, trivial⟩, by omega⟩ dX9_readStep_165
      refine x_aload_n hx hb hl 0 rfl dX9_readStep_147 rfl ?_
      refine x_get (j := 0) (v := .ref (h0 + 1)) hx hb hown hT hE hW cls_X9 (Or.inl (by decide)) (so_126 h0 g _) (by decide) rfl wq307 dX9_readStep_148 ?_
      refine x_bipush hx hb dX9_readStep_151 (by decide) ?_
      refine x_iload_n hx hb hl 2 rfl dX9_readStep_153 rfl ?_
      refine x_goi (x_runVN (As := [.int (xJ 6), .int (xJ x1)]) hx hb hml hown hT hE hW hl.1 (Or.inl (by decide)) (so_1 h0 g _) rfl cf_X8_fails wq588 wq5 wn728 (c_X8_fails l D g T h0 s78 hW.2.1 6 (by decide) x1 rx1 hp79.1.1) ⟨rfl, rfl, ⟨by decide, by decide⟩, ⟨by decide, by decide⟩⟩ rfl rfl (Nat.le_of_ble_eq_true rfl) dX9_readStep_154) hW (fun x83 s84 H locs rx83 hp85 hW => ?_)
      obtain ⟨fs84, hp85⟩ := hp85
      have hF86 := hF80.call fs84 (fun k h => by omega)
      have ghp85 := hp85.2
      refine x_if_eq (tgt := 164) hx hb rx83 dX9_readStep_157 (by decide) (fun c87 => ?_) (fun c87 => ?_)
      · skip
        refine x_iconst hx hb dX9_readStep_164 ?_
        rw [eQ]
        exact x_zret hx hb hr hlk hW (by omega) ⟨hF86, ⟨hp85.1.1, (hp85.1.2.1.trans q81), trivial⟩, by omega⟩ dX9_readStep_165
      refine x_iconst hx hb dX9_readStep_160 ?_
      refine lv_goto (tgt := 165) hx hb dX9_readStep_161 (by decide) ?_
      rw [eQ]
      exact x_zret hx hb hr hlk hW (by omega) ⟨hF86, ⟨hp85.1.1, (hp85.1.2.1.trans q81), trivial⟩, by omega⟩ dX9_readStep_165
    refine x_iconst hx hb dX9_readStep_133 ?_
    rw [eQ]
    exact x_zret hx hb hr hlk hW (by omega) ⟨hF75, ⟨hp74.1.1, (hp74.1.2.1.trans (hp69.1.2.1.trans q64)), trivial⟩, by omega⟩ dX9_readStep_134
  refine x_icmp_lt (tgt := 65) hx hb rx4 (by decide) dX9_readStep_25 (by decide) (fun c88 => ?_) (fun c88 => ?_)
  · skip
    exact J65 1 s0 H locs ls (by decide) hF p0 k1_1 q3 (by omega) hW (lv_sub hl [3, 4, 2, 1, 0] rfl)
  refine x_aload_n hx hb hl 3 rfl dX9_readStep_28 rfl ?_
  refine x_get (j := 0) (v := .ref (h0 + 1)) hx hb hown hT hE hW cls_X9 (Or.inl (by decide)) (so_126 h0 g _) (by decide) rfl wq307 dX9_readStep_29 ?_
  refine x_goi (x_runVN (As := []) hx hb hml hown hT hE hW hl.1 (Or.inl (by decide)) (so_1 h0 g _) rfl cf_X8_sign wq581 wq4 wn727 (c_X8_sign l D g T h0 s0 hW.2.1 p0) ⟨rfl, rfl, ⟨by decide, by decide⟩, ⟨by decide, by decide⟩⟩ rfl rfl (Nat.le_of_ble_eq_true rfl) dX9_readStep_32) hW (fun x89 s90 H locs rx89 hp91 hW => ?_)
  obtain ⟨es90, hp91⟩ := hp91
  subst es90
  have ghp91 := hp91
  refine x_bipush hx hb dX9_readStep_35 (by decide) ?_
  refine x_icmp_gt (tgt := 65) hx hb rx89 (by decide) dX9_readStep_37 (by decide) (fun c92 => ?_) (fun c92 => ?_)
  · skip
    exact J65 1 s0 H locs ls (by decide) hF p0 k1_1 q3 (by omega) hW (lv_sub hl [3, 4, 2, 1, 0] rfl)
  refine x_aload_n hx hb hl 3 rfl dX9_readStep_40 rfl ?_
  refine x_get (j := 0) (v := .ref (h0 + 1)) hx hb hown hT hE hW cls_X9 (Or.inl (by decide)) (so_126 h0 g _) (by decide) rfl wq307 dX9_readStep_41 ?_
  refine x_goi (x_runVN (As := []) hx hb hml hown hT hE hW hl.1 (Or.inl (by decide)) (so_1 h0 g _) rfl cf_X8_sign wq581 wq4 wn727 (c_X8_sign l D g T h0 s0 hW.2.1 p0) ⟨rfl, rfl, ⟨by decide, by decide⟩, ⟨by decide, by decide⟩⟩ rfl rfl (Nat.le_of_ble_eq_true rfl) dX9_readStep_44) hW (fun x93 s94 H locs rx93 hp95 hW => ?_)
  obtain ⟨es94, hp95⟩ := hp95
  subst es94
  have ghp95 := hp95
  refine x_bipush hx hb dX9_readStep_47 (by decide) ?_
  refine x_isub hx hb dX9_readStep_49 ?_
  refine x_nm (fun x96 ex96 => ?_)
  refine lv_istore (lv' := [(4, .int (xJ x96)), (3, .int (xJ x2)), (2, .int (xJ x1)), (0, .ref (h0 + 126)), (1, .int (xJ q))]) hx hb dX9_readStep_50 hl (by decide) rfl (fun ls hl => ?_)
  refine x_aload_n hx hb hl 3 rfl dX9_readStep_52 rfl ?_
  refine x_get (j := 0) (v := .ref (h0 + 1)) hx hb hown hT hE hW cls_X9 (Or.inl (by decide)) (so_126 h0 g _) (by decide) rfl wq307 dX9_readStep_53 ?_
  refine lv_dup hx hb dX9_readStep_56 rfl ?_
  refine x_getN (j := 3) (v := .int (xJ (s0 1 3))) hx hb hown hT hE hW cls_X8 (Or.inl (by decide)) (so_1 h0 g _) (by decide) rfl wn202 dX9_readStep_57 ?_
  refine x_rd hW (fun x97 ex97 rx97 => ?_)
  refine x_iconst hx hb dX9_readStep_60 ?_
  refine x_iadd hx hb dX9_readStep_61 ?_
  refine x_putN (j := 3) hx hb hown hT hE hW cls_X8 (by decide) (fun σ => so_1 h0 g σ) (by decide) (st_X8_3 h0 s0 1 (x97 + 1)) (ln_X8_3 h0 _ _) wn202 rfl rfl rfl (by omega) dX9_readStep_62 (fun H locs s98 es98 hW => ?_)
  have q99 : IC s98 := by rw [es98]; exact IC_1 p0 (by omega)
  have q100 : s98 1 1 = s0 1 1 := (show s98 1 1 = s0 1 1 from by rw [es98, xU_j _ _ (by decide)]).trans k1_1
  have q101 : s98 126 2 = x2 := (show s98 126 2 = s0 126 2 from by rw [es98, xU_k _ _ _ (by omega)]).trans q3
  have hF102 := hF.put es98 (by omega)
  exact J65 x96 s98 H locs ls (by omega) hF102 q99 q100 q101 (by omega) hW (lv_sub hl [3, 4, 2, 1, 0] rfl)
set_option maxHeartbeats 4000000 in
set_option maxRecDepth 100000 in
theorem c_X9_readStepsL1 (l : Launch) (D : va_G) (g : xG) (T : Nat × Nat × Nat) (h0 : Nat) (s0 : xS) (hσ : xRR s0) (q : Int) (rq : xR q) (hq : q = 1) (p0 : IC s0) : Met l yX9_readSteps (xws yX9_readSteps cX9_readSteps 4 (some .boolean)) { frames := 4, cells := 0, slots := 0, locals := 97 } (xP [.ref (h0 + 126), .int (xJ q)] D g T h0 s0) (xQi D g h0 (fun r τ => xFr (fun k => k = 1 ∨ k = 126 ∨ k = 127) s0 τ ∧ (((IC τ) ∧ (τ 1 1 = s0 1 1) ∧ True) ∧ (r = 0 ∨ r = 1)))) 0 0 (xA h0) := by
  refine x_met hσ (by decide) (Nat.le_of_ble_eq_true rfl) ?_
  intro p e s m args below meth c hx hb hr hml hown hT hlk hnm hE hW ls hl
  have hl : lv_has ls 4 [(0, .ref (h0 + 126)), (1, .int (xJ q))] := hl
  obtain ⟨Q, eQ⟩ : ∃ Q, Q = MQ below (xQi D g h0 (fun r τ => xFr (fun k => k = 1 ∨ k = 126 ∨ k = 127) s0 τ ∧ (((IC τ) ∧ (τ 1 1 = s0 1 1) ∧ True) ∧ (r = 0 ∨ r = 1)))) args s 0 0 (xA h0) := ⟨_, rfl⟩
  rw [← eQ]
  generalize hHe : ([] : List Loc) = locs at hW ⊢
  obtain ⟨H, eH⟩ : ∃ H, H = s.heap := ⟨_, rfl⟩
  rw [← eH] at hW ⊢
  have hF : xFr (fun k => k = 1 ∨ k = 126 ∨ k = 127) s0 s0 := xFr.rf
  have k1_1 : s0 1 1 = s0 1 1 := rfl
  refine x_iload_n hx hb hl 1 rfl dX9_readSteps_0 rfl ?_
  refine x_if_ne (tgt := 8) hx hb rq dX9_readSteps_1 (by decide) (fun c1 => ?_) (fun c1 => ?_)
  · skip
    refine x_bipush hx hb dX9_readSteps_8 (by decide) ?_
    refine lv_istore_n (lv' := [(2, .int (xJ 41)), (0, .ref (h0 + 126)), (1, .int (xJ q))]) hx hb dX9_readSteps_10 rfl hl (by decide) rfl (fun ls hl => ?_)
    refine x_iconst hx hb dX9_readSteps_11 ?_
    refine lv_istore_n (lv' := [(3, .int (xJ 0)), (2, .int (xJ 41)), (0, .ref (h0 + 126)), (1, .int (xJ q))]) hx hb dX9_readSteps_12 rfl hl (by decide) rfl (fun ls hl => ?_)
    have L13 : ∀ (fu : Nat) (i3_13 : Int) (s_13 : xS) (H : Heap) (locs : List Loc) (ls : Array Slot), (xR i3_13) → (xFr (fun k => k = 1 ∨ k = 126 ∨ k = 127) s0 s_13) → (IC s_13) → (s_13 1 1 = s0 1 1) → (0 ≤ i3_13) → (i3_13 ≤ 80) → (80 + 1 - i3_13).toNat < fu → xW D g h0 s H locs s_13 → lv_has ls 4 [(0, .ref (h0 + 126)), (1, .int (xJ q)), (2, .int (xJ 41)), (3, .int (xJ i3_13))] → W p l e { frames := 4, cells := 0, slots := 0, locals := 97 } s m args below meth c H locs 0 0 Q (F0 m 13 ls []) := by
      intro fu
      induction fu with
      | zero => intro i3_13 s_13 H locs ls ri3_13 hF_13 q13_0 q13_1 v13_0 v13_1 hm; exact absurd hm (Nat.not_lt_zero _)
      | succ fu ih13 =>
        intro i3_13 s_13 H locs ls ri3_13 hF_13 q13_0 q13_1 v13_0 v13_1 hm hW hl
        refine x_iload_n hx hb hl 3 rfl dX9_readSteps_13 rfl ?_
        refine x_bipush hx hb dX9_readSteps_14 (by decide) ?_
        refine x_icmp_ge (tgt := 48) hx hb ri3_13 (by decide) dX9_readSteps_16 (by decide) (fun c2 => ?_) (fun c2 => ?_)
        · skip
          refine x_iconst hx hb dX9_readSteps_48 ?_
          rw [eQ]
          exact x_zret hx hb hr hlk hW (by omega) ⟨hF_13, ⟨q13_0, q13_1, trivial⟩, by omega⟩ dX9_readSteps_49
        refine x_aload_n hx hb hl 0 rfl dX9_readSteps_19 rfl ?_
        refine x_iload_n hx hb hl 1 rfl dX9_readSteps_20 rfl ?_
        refine x_goi (x_runV (As := [.int (xJ q)]) hx hb hml hown hT hE hW hl.1 (Or.inl (by decide)) (so_126 h0 g _) rfl cf_X9_readStep wq725 wq30 wq723 (c_X9_readStepL1 l D g T h0 s_13 hW.2.1 q rq (by omega) q13_0) ⟨rfl, rfl, ⟨by decide, by decide⟩, ⟨by decide, by decide⟩⟩ rfl rfl (Nat.le_of_ble_eq_true rfl) dX9_readSteps_21) hW (fun x3 s4 H locs rx3 hp5 hW => ?_)
        obtain ⟨fs4, hp5⟩ := hp5
        have hF6 := hF_13.call fs4 (fun k h => by omega)
        have ghp5 := hp5.2
        refine x_if_ne (tgt := 29) hx hb rx3 dX9_readSteps_24 (by decide) (fun c7 => ?_) (fun c7 => ?_)
        · skip
          refine x_aload_n hx hb hl 0 rfl dX9_readSteps_29 rfl ?_
          refine x_get (j := 0) (v := .ref (h0 + 1)) hx hb hown hT hE hW cls_X9 (Or.inl (by decide)) (so_126 h0 g _) (by decide) rfl wq307 dX9_readSteps_30 ?_
          refine x_goi (x_runVN (As := []) hx hb hml hown hT hE hW hl.1 (Or.inl (by decide)) (so_1 h0 g _) rfl cf_X8_sign wq581 wq4 wn727 (c_X8_sign l D g T h0 s4 hW.2.1 hp5.1.1) ⟨rfl, rfl, ⟨by decide, by decide⟩, ⟨by decide, by decide⟩⟩ rfl rfl (Nat.le_of_ble_eq_true rfl) dX9_readSteps_33) hW (fun x8 s9 H locs rx8 hp10 hW => ?_)
          obtain ⟨es9, hp10⟩ := hp10
          subst es9
          have ghp10 := hp10
          refine x_iload_n hx hb hl 2 rfl dX9_readSteps_36 rfl ?_
          refine x_icmp_ne (tgt := 42) hx hb rx8 (by decide) dX9_readSteps_37 (by decide) (fun c11 => ?_) (fun c11 => ?_)
          · skip
            refine x_iinc (lv' := [(3, .int (xJ (i3_13 + 1))), (0, .ref (h0 + 126)), (1, .int (xJ q)), (2, .int (xJ 41))]) hx hb hl 3 rfl dX9_readSteps_42 (by decide) rfl (fun ls hl => ?_)
            refine lv_goto (tgt := 13) hx hb dX9_readSteps_45 (by decide) ?_
            exact ih13 (i3_13 + 1) s4 H locs ls (by omega) hF6 hp5.1.1 (hp5.1.2.1.trans q13_1) (by omega) (by omega) (by omega) hW (lv_sub hl [1, 2, 3, 0] rfl)
          refine x_iconst hx hb dX9_readSteps_40 ?_
          rw [eQ]
          exact x_zret hx hb hr hlk hW (by omega) ⟨hF6, ⟨hp5.1.1, (hp5.1.2.1.trans q13_1), trivial⟩, by omega⟩ dX9_readSteps_41
        refine x_iconst hx hb dX9_readSteps_27 ?_
        rw [eQ]
        exact x_zret hx hb hr hlk hW (by omega) ⟨hF6, ⟨hp5.1.1, (hp5.1.2.1.trans q13_1), trivial⟩, by omega⟩ dX9_readSteps_28
    exact L13 ((80 + 1 - 0 : Int).toNat + 1) 0 s0 H locs ls (by decide) hF p0 k1_1 (by omega) (by omega) (Nat.lt_succ_self _) hW (lv_sub hl [2, 3, 1, 0] rfl)
  refine x_iconst hx hb dX9_readSteps_4 ?_
  refine lv_goto (tgt := 10) hx hb dX9_readSteps_5 (by decide) ?_
  refine lv_istore_n (lv' := [(2, .int (xJ (-1))), (0, .ref (h0 + 126)), (1, .int (xJ q))]) hx hb dX9_readSteps_10 rfl hl (by decide) rfl (fun ls hl => ?_)
  refine x_iconst hx hb dX9_readSteps_11 ?_
  refine lv_istore_n (lv' := [(3, .int (xJ 0)), (2, .int (xJ (-1))), (0, .ref (h0 + 126)), (1, .int (xJ q))]) hx hb dX9_readSteps_12 rfl hl (by decide) rfl (fun ls hl => ?_)
  have L13 : ∀ (fu : Nat) (i3_13 : Int) (s_13 : xS) (H : Heap) (locs : List Loc) (ls : Array Slot), (xR i3_13) → (xFr (fun k => k = 1 ∨ k = 126 ∨ k = 127) s0 s_13) → (IC s_13) → (s_13 1 1 = s0 1 1) → (0 ≤ i3_13) → (i3_13 ≤ 80) → (80 + 1 - i3_13).toNat < fu → xW D g h0 s H locs s_13 → lv_has ls 4 [(0, .ref (h0 + 126)), (1, .int (xJ q)), (2, .int (xJ (-1))), (3, .int (xJ i3_13))] → W p l e { frames := 4, cells := 0, slots := 0, locals := 97 } s m args below meth c H locs 0 0 Q (F0 m 13 ls []) := by
    intro fu
    induction fu with
    | zero => intro i3_13 s_13 H locs ls ri3_13 hF_13 q13_0 q13_1 v13_0 v13_1 hm; exact absurd hm (Nat.not_lt_zero _)
    | succ fu ih13 =>
      intro i3_13 s_13 H locs ls ri3_13 hF_13 q13_0 q13_1 v13_0 v13_1 hm hW hl
      refine x_iload_n hx hb hl 3 rfl dX9_readSteps_13 rfl ?_
      refine x_bipush hx hb dX9_readSteps_14 (by decide) ?_
      refine x_icmp_ge (tgt := 48) hx hb ri3_13 (by decide) dX9_readSteps_16 (by decide) (fun c12 => ?_) (fun c12 => ?_)
      · skip
        refine x_iconst hx hb dX9_readSteps_48 ?_
        rw [eQ]
        exact x_zret hx hb hr hlk hW (by omega) ⟨hF_13, ⟨q13_0, q13_1, trivial⟩, by omega⟩ dX9_readSteps_49
      refine x_aload_n hx hb hl 0 rfl dX9_readSteps_19 rfl ?_
      refine x_iload_n hx hb hl 1 rfl dX9_readSteps_20 rfl ?_
      refine x_goi (x_runV (As := [.int (xJ q)]) hx hb hml hown hT hE hW hl.1 (Or.inl (by decide)) (so_126 h0 g _) rfl cf_X9_readStep wq725 wq30 wq723 (c_X9_readStepL1 l D g T h0 s_13 hW.2.1 q rq (by omega) q13_0) ⟨rfl, rfl, ⟨by decide, by decide⟩, ⟨by decide, by decide⟩⟩ rfl rfl (Nat.le_of_ble_eq_true rfl) dX9_readSteps_21) hW (fun x13 s14 H locs rx13 hp15 hW => ?_)
      obtain ⟨fs14, hp15⟩ := hp15
      have hF16 := hF_13.call fs14 (fun k h => by omega)
      have ghp15 := hp15.2
      refine x_if_ne (tgt := 29) hx hb rx13 dX9_readSteps_24 (by decide) (fun c17 => ?_) (fun c17 => ?_)
      · skip
        refine x_aload_n hx hb hl 0 rfl dX9_readSteps_29 rfl ?_
        refine x_get (j := 0) (v := .ref (h0 + 1)) hx hb hown hT hE hW cls_X9 (Or.inl (by decide)) (so_126 h0 g _) (by decide) rfl wq307 dX9_readSteps_30 ?_
        refine x_goi (x_runVN (As := []) hx hb hml hown hT hE hW hl.1 (Or.inl (by decide)) (so_1 h0 g _) rfl cf_X8_sign wq581 wq4 wn727 (c_X8_sign l D g T h0 s14 hW.2.1 hp15.1.1) ⟨rfl, rfl, ⟨by decide, by decide⟩, ⟨by decide, by decide⟩⟩ rfl rfl (Nat.le_of_ble_eq_true rfl) dX9_readSteps_33) hW (fun x18 s19 H locs rx18 hp20 hW => ?_)
        obtain ⟨es19, hp20⟩ := hp20
        subst es19
        have ghp20 := hp20
        refine x_iload_n hx hb hl 2 rfl dX9_readSteps_36 rfl ?_
        refine x_icmp_ne (tgt := 42) hx hb rx18 (by decide) dX9_readSteps_37 (by decide) (fun c21 => ?_) (fun c21 => ?_)
        · skip
          refine x_iinc (lv' := [(3, .int (xJ (i3_13 + 1))), (0, .ref (h0 + 126)), (1, .int (xJ q)), (2, .int (xJ (-1)))]) hx hb hl 3 rfl dX9_readSteps_42 (by decide) rfl (fun ls hl => ?_)
          refine lv_goto (tgt := 13) hx hb dX9_readSteps_45 (by decide) ?_
          exact ih13 (i3_13 + 1) s14 H locs ls (by omega) hF16 hp15.1.1 (hp15.1.2.1.trans q13_1) (by omega) (by omega) (by omega) hW (lv_sub hl [1, 2, 3, 0] rfl)
        refine x_iconst hx hb dX9_readSteps_40 ?_
        rw [eQ]
        exact x_zret hx hb hr hlk hW (by omega) ⟨hF16, ⟨hp15.1.1, (hp15.1.2.1.trans q13_1), trivial⟩, by omega⟩ dX9_readSteps_41
      refine x_iconst hx hb dX9_readSteps_27 ?_
      rw [eQ]
      exact x_zret hx hb hr hlk hW (by omega) ⟨hF16, ⟨hp15.1.1, (hp15.1.2.1.trans q13_1), trivial⟩, by omega⟩ dX9_readSteps_28
  exact L13 ((80 + 1 - 0 : Int).toNat + 1) 0 s0 H locs ls (by decide) hF p0 k1_1 (by omega) (by omega) (Nat.lt_succ_self _) hW (lv_sub hl [2, 3, 1, 0] rfl)
set_option maxHeartbeats 4000000 in
set_option maxRecDepth 100000 in
theorem c_X9_readStepL0 (l : Launch) (D : va_G) (g : xG) (T : Nat × Nat × Nat) (h0 : Nat) (s0 : xS) (hσ : xRR s0) (q : Int) (rq : xR q) (hq : q = 0) (p0 : IC s0) : Met l yX9_readStep (xws yX9_readStep cX9_readStep 6 (some .boolean)) { frames := 5, cells := 0, slots := 0, locals := 120 } (xP [.ref (h0 + 126), .int (xJ q)] D g T h0 s0) (xQi D g h0 (fun r τ => xFr (fun k => k = 1 ∨ k = 126 ∨ k = 127) s0 τ ∧ (((IC τ) ∧ (τ 1 1 = s0 1 1) ∧ True) ∧ (r = 0 ∨ r = 1)))) 0 0 (xA h0) := by
  refine x_met hσ (by decide) (Nat.le_of_ble_eq_true rfl) ?_
  intro p e s m args below meth c hx hb hr hml hown hT hlk hnm hE hW ls hl
  have hl : lv_has ls 6 [(0, .ref (h0 + 126)), (1, .int (xJ q))] := hl
  obtain ⟨Q, eQ⟩ : ∃ Q, Q = MQ below (xQi D g h0 (fun r τ => xFr (fun k => k = 1 ∨ k = 126 ∨ k = 127) s0 τ ∧ (((IC τ) ∧ (τ 1 1 = s0 1 1) ∧ True) ∧ (r = 0 ∨ r = 1)))) args s 0 0 (xA h0) := ⟨_, rfl⟩
  rw [← eQ]
  generalize hHe : ([] : List Loc) = locs at hW ⊢
  obtain ⟨H, eH⟩ : ∃ H, H = s.heap := ⟨_, rfl⟩
  rw [← eH] at hW ⊢
  have hF : xFr (fun k => k = 1 ∨ k = 126 ∨ k = 127) s0 s0 := xFr.rf
  have k1_1 : s0 1 1 = s0 1 1 := rfl
  refine x_aload_n hx hb hl 0 rfl dX9_readStep_0 rfl ?_
  refine x_get (j := 0) (v := .ref (h0 + 1)) hx hb hown hT hE hW cls_X9 (Or.inl (by decide)) (so_126 h0 g _) (by decide) rfl wq307 dX9_readStep_1 ?_
  refine x_getN (j := 3) (v := .int (xJ (s0 1 3))) hx hb hown hT hE hW cls_X8 (Or.inl (by decide)) (so_1 h0 g _) (by decide) rfl wn202 dX9_readStep_4 ?_
  refine x_rd hW (fun x1 ex1 rx1 => ?_)
  refine lv_istore_n (lv' := [(2, .int (xJ x1)), (0, .ref (h0 + 126)), (1, .int (xJ q))]) hx hb dX9_readStep_7 rfl hl (by decide) rfl (fun ls hl => ?_)
  refine x_aload_n hx hb hl 1 rfl dX9_readStep_8 rfl ?_
  refine x_get (j := 2) (v := .int (xJ (s0 126 2))) hx hb hown hT hE hW cls_X9 (Or.inl (by decide)) (so_126 h0 g _) (by decide) rfl wq309 dX9_readStep_9 ?_
  refine x_rd hW (fun x2 ex2 rx2 => ?_)
  have bx2 : 0 ≤ x2 ∧ x2 ≤ 60 := by rw [ex2]; exact IC.y p0
  have q3 : s0 126 2 = x2 := ex2.symm
  refine lv_istore_n (lv' := [(3, .int (xJ x2)), (2, .int (xJ x1)), (0, .ref (h0 + 126)), (1, .int (xJ q))]) hx hb dX9_readStep_12 rfl hl (by decide) rfl (fun ls hl => ?_)
  refine x_iconst hx hb dX9_readStep_13 ?_
  refine lv_istore (lv' := [(4, .int (xJ 1)), (3, .int (xJ x2)), (2, .int (xJ x1)), (0, .ref (h0 + 126)), (1, .int (xJ q))]) hx hb dX9_readStep_14 hl (by decide) rfl (fun ls hl => ?_)
  refine x_aload_n hx hb hl 3 rfl dX9_readStep_16 rfl ?_
  refine x_get (j := 0) (v := .ref (h0 + 1)) hx hb hown hT hE hW cls_X9 (Or.inl (by decide)) (so_126 h0 g _) (by decide) rfl wq307 dX9_readStep_17 ?_
  refine x_goi (x_runVN (As := []) hx hb hml hown hT hE hW hl.1 (Or.inl (by decide)) (so_1 h0 g _) rfl cf_X8_sign wq581 wq4 wn727 (c_X8_sign l D g T h0 s0 hW.2.1 p0) ⟨rfl, rfl, ⟨by decide, by decide⟩, ⟨by decide, by decide⟩⟩ rfl rfl (Nat.le_of_ble_eq_true rfl) dX9_readStep_20) hW (fun x4 s5 H locs rx4 hp6 hW => ?_)
  obtain ⟨es5, hp6⟩ := hp6
  subst es5
  have ghp6 := hp6
  refine x_bipush hx hb dX9_readStep_23 (by decide) ?_
  have J65 : ∀ (i4_65 : Int) (s_65 : xS) (H : Heap) (locs : List Loc) (ls : Array Slot), (xR i4_65) → (xFr (fun k => k = 1 ∨ k = 126 ∨ k = 127) s0 s_65) → (IC s_65) → (s_65 1 1 = s0 1 1) → (s_65 126 2 = x2) → (1 ≤ i4_65 ∧ i4_65 ≤ 9) → xW D g h0 s H locs s_65 → lv_has ls 6 [(0, .ref (h0 + 126)), (1, .int (xJ q)), (2, .int (xJ x1)), (3, .int (xJ x2)), (4, .int (xJ i4_65))] → W p l e { frames := 5, cells := 0, slots := 0, locals := 120 } s m args below meth c H locs 0 0 Q (F0 m 65 ls []) := by
    intro i4_65 s_65 H locs ls ri4_65 hF_65 q65_0 q65_1 q65_2 v65_0 hW hl
    refine x_aload_n hx hb hl 0 rfl dX9_readStep_65 rfl ?_
    refine x_get (j := 0) (v := .ref (h0 + 1)) hx hb hown hT hE hW cls_X9 (Or.inl (by decide)) (so_126 h0 g _) (by decide) rfl wq307 dX9_readStep_66 ?_
    refine x_goi (x_runVN (As := []) hx hb hml hown hT hE hW hl.1 (Or.inl (by decide)) (so_1 h0 g _) rfl cf_X8_sign wq581 wq4 wn727 (c_X8_sign l D g T h0 s_65 hW.2.1 q65_0) ⟨rfl, rfl, ⟨by decide, by decide⟩, ⟨by decide, by decide⟩⟩ rfl rfl (Nat.le_of_ble_eq_true rfl) dX9_readStep_69) hW (fun x7 s8 H locs rx7 hp9 hW => ?_)
    obtain ⟨es8, hp9⟩ := hp9
    subst es8
    have ghp9 := hp9
    refine x_bipush hx hb dX9_readStep_72 (by decide) ?_
    refine x_icmp_ne (tgt := 166) hx hb rx7 (by decide) dX9_readStep_74 (by decide) (fun c10 => ?_) (fun c10 => ?_)
    · skip
      refine x_aload_n hx hb hl 0 rfl dX9_readStep_166 rfl ?_
      refine x_get (j := 0) (v := .ref (h0 + 1)) hx hb hown hT hE hW cls_X9 (Or.inl (by decide)) (so_126 h0 g _) (by decide) rfl wq307 dX9_readStep_167 ?_
      refine x_goi (x_runVN (As := []) hx hb hml hown hT hE hW hl.1 (Or.inl (by decide)) (so_1 h0 g _) rfl cf_X8_sign wq581 wq4 wn727 (c_X8_sign l D g T h0 s_65 hW.2.1 q65_0) ⟨rfl, rfl, ⟨by decide, by decide⟩, ⟨by decide, by decide⟩⟩ rfl rfl (Nat.le_of_ble_eq_true rfl) dX9_readStep_170) hW (fun x11 s12 H locs rx11 hp13 hW => ?_)
      obtain ⟨es12, hp13⟩ := hp13
      subst es12
      have ghp13 := hp13
      refine x_goi (x_runS (As := [.int (xJ x11)]) hx hb hml hown hT hE hW hl.1 cf_X9_stepOf wq735 wq734 (c_X9_stepOf l D g T h0 s_65 hW.2.1 x11 rx11) ⟨rfl, rfl, ⟨by decide, by decide⟩, ⟨by decide, by decide⟩⟩ rfl rfl (Nat.le_of_ble_eq_true rfl) dX9_readStep_173) hW (fun x14 s15 H locs rx14 hp16 hW => ?_)
      obtain ⟨es15, hp16⟩ := hp16
      subst es15
      have ghp16 := hp16
      refine lv_istore (lv' := [(5, .int (xJ x14)), (0, .ref (h0 + 126)), (1, .int (xJ q)), (2, .int (xJ x1)), (3, .int (xJ x2)), (4, .int (xJ i4_65))]) hx hb dX9_readStep_176 hl (by decide) rfl (fun ls hl => ?_)
      refine x_iload hx hb hl 0 rfl dX9_readStep_178 ?_
      refine x_iconst hx hb dX9_readStep_180 ?_
      refine x_icmp_ne (tgt := 200) hx hb rx14 (by decide) dX9_readStep_181 (by decide) (fun c17 => ?_) (fun c17 => ?_)
      · skip
        refine x_aload_n hx hb hl 1 rfl dX9_readStep_200 rfl ?_
        refine x_get (j := 0) (v := .ref (h0 + 1)) hx hb hown hT hE hW cls_X9 (Or.inl (by decide)) (so_126 h0 g _) (by decide) rfl wq307 dX9_readStep_201 ?_
        refine lv_dup hx hb dX9_readStep_204 rfl ?_
        refine x_getN (j := 3) (v := .int (xJ (s_65 1 3))) hx hb hown hT hE hW cls_X8 (Or.inl (by decide)) (so_1 h0 g _) (by decide) rfl wn202 dX9_readStep_205 ?_
        refine x_rd hW (fun x18 ex18 rx18 => ?_)
        refine x_iconst hx hb dX9_readStep_208 ?_
        refine x_iadd hx hb dX9_readStep_209 ?_
        refine x_putN (j := 3) hx hb hown hT hE hW cls_X8 (by decide) (fun σ => so_1 h0 g σ) (by decide) (st_X8_3 h0 s_65 1 (x18 + 1)) (ln_X8_3 h0 _ _) wn202 rfl rfl rfl (by omega) dX9_readStep_210 (fun H locs s19 es19 hW => ?_)
        have q20 : IC s19 := by rw [es19]; exact IC_1 q65_0 (by omega)
        have q21 : s19 1 1 = s0 1 1 := (show s19 1 1 = s_65 1 1 from by rw [es19, xU_j _ _ (by decide)]).trans q65_1
        have q22 : s19 126 2 = x2 := (show s19 126 2 = s_65 126 2 from by rw [es19, xU_k _ _ _ (by omega)]).trans q65_2
        have hF23 := hF_65.put es19 (by omega)
        refine x_aload_n hx hb hl 1 rfl dX9_readStep_213 rfl ?_
        refine x_get (j := 2) (v := .int (xJ (s19 126 2))) hx hb hown hT hE hW cls_X9 (Or.inl (by decide)) (so_126 h0 g _) (by decide) rfl wq309 dX9_readStep_214 ?_
        refine x_rd hW (fun x24 ex24 rx24 => ?_)
        have bx24 : 0 ≤ x24 ∧ x24 ≤ 60 := by rw [ex24]; exact IC.y q20
        have fx24 : x24 = x2 := ex24.trans q22
        refine x_bipush hx hb dX9_readStep_217 (by decide) ?_
        refine x_icmp_lt (tgt := 233) hx hb rx24 (by decide) dX9_readStep_219 (by decide) (fun c25 => ?_) (fun c25 => ?_)
        · skip
          refine x_aload_n hx hb hl 1 rfl dX9_readStep_233 rfl ?_
          refine x_get (j := 1) (v := .ref (h0 + 127)) hx hb hown hT hE hW cls_X9 (Or.inl (by decide)) (so_126 h0 g _) (by decide) rfl wq308 dX9_readStep_234 ?_
          refine x_aload_n hx hb hl 1 rfl dX9_readStep_237 rfl ?_
          refine x_get (j := 2) (v := .int (xJ (s19 126 2))) hx hb hown hT hE hW cls_X9 (Or.inl (by decide)) (so_126 h0 g _) (by decide) rfl wq309 dX9_readStep_238 ?_
          refine x_rd hW (fun x26 ex26 rx26 => ?_)
          have bx26 : 0 ≤ x26 ∧ x26 ≤ 60 := by rw [ex26]; exact IC.y q20
          have fx26 : x26 = x2 := ex26.trans q22
          refine x_iload hx hb hl 0 rfl dX9_readStep_241 ?_
          refine x_iast hx hb hE hW (by decide) (fun σ => sa_127 h0 g σ) (by omega) (by decide) rx14 dX9_readStep_243 (fun H locs s27 es27 hW => ?_)
          have q28 : IC s27 := by rw [es27]; exact IC_o (by decide) q20
          have q29 : s27 1 1 = s0 1 1 := (show s27 1 1 = s19 1 1 from by rw [es27, xU_k _ _ _ (by omega)]).trans q21
          have q30 : s27 126 2 = x2 := (show s27 126 2 = s19 126 2 from by rw [es27, xU_k _ _ _ (by omega)]).trans q22
          have hF31 := hF23.put es27 (by omega)
          refine x_aload_n hx hb hl 1 rfl dX9_readStep_244 rfl ?_
          refine lv_dup hx hb dX9_readStep_245 rfl ?_
          refine x_get (j := 2) (v := .int (xJ (s27 126 2))) hx hb hown hT hE hW cls_X9 (Or.inl (by decide)) (so_126 h0 g _) (by decide) rfl wq309 dX9_readStep_246 ?_
          refine x_rd hW (fun x32 ex32 rx32 => ?_)
          have bx32 : 0 ≤ x32 ∧ x32 ≤ 60 := by rw [ex32]; exact IC.y q28
          have fx32 : x32 = x2 := ex32.trans q30
          refine x_iconst hx hb dX9_readStep_249 ?_
          refine x_iadd hx hb dX9_readStep_250 ?_
          refine x_put (j := 2) hx hb hown hT hE hW cls_X9 (by decide) (fun σ => so_126 h0 g σ) (by decide) (st_X9_2 h0 s27 126 (x32 + 1)) (ln_X9_2 h0 _ _) wq309 rfl rfl rfl (by omega) dX9_readStep_251 (fun H locs s33 es33 hW => ?_)
          have q34 : IC s33 := by rw [es33]; exact IC_126 q28 (by omega)
          have q35 : s33 1 1 = s0 1 1 := (show s33 1 1 = s27 1 1 from by rw [es33, xU_k _ _ _ (by omega)]).trans q29
          have q36 : s33 126 2 = (x32 + 1) := by rw [es33, xU_s]
          have hF37 := hF31.put es33 (by omega)
          refine x_aload_n hx hb hl 1 rfl dX9_readStep_254 rfl ?_
          refine x_iload_n hx hb hl 4 rfl dX9_readStep_255 rfl ?_
          refine x_iload hx hb hl 5 rfl dX9_readStep_256 ?_
          refine x_iconst hx hb dX9_readStep_258 ?_
          refine x_isub hx hb dX9_readStep_259 ?_
          refine x_goi (x_runV (As := [.int (xJ x2), .int (xJ (i4_65 - 1))]) hx hb hml hown hT hE hW hl.1 (Or.inl (by decide)) (so_126 h0 g _) rfl cf_X9_repeat wq732 wq31 wq730 (c_X9_repeat l D g T h0 s33 hW.2.1 x2 rx2 (i4_65 - 1) (by omega) (by omega) (by omega) q34) ⟨rfl, rfl, ⟨by decide, by decide⟩, ⟨by decide, by decide⟩⟩ rfl rfl (Nat.le_of_ble_eq_true rfl) dX9_readStep_260) hW (fun x38 s39 H locs rx38 hp40 hW => ?_)
          obtain ⟨fs39, hp40⟩ := hp40
          have hF41 := hF37.call fs39 (fun k h => by omega)
          have q42 : s39 1 1 = s0 1 1 := (congrFun (fs39 _ (by omega)) _).trans q35
          have ghp40 := hp40.2
          refine x_if_ne (tgt := 279) hx hb rx38 dX9_readStep_263 (by decide) (fun c43 => ?_) (fun c43 => ?_)
          · skip
            refine x_iconst hx hb dX9_readStep_279 ?_
            refine lv_goto (tgt := 284) hx hb dX9_readStep_280 (by decide) ?_
            rw [eQ]
            exact x_zret hx hb hr hlk hW (by omega) ⟨hF41, ⟨hp40.1.1, q42, trivial⟩, by omega⟩ dX9_readStep_284
          refine x_aload_n hx hb hl 1 rfl dX9_readStep_266 rfl ?_
          refine x_get (j := 0) (v := .ref (h0 + 1)) hx hb hown hT hE hW cls_X9 (Or.inl (by decide)) (so_126 h0 g _) (by decide) rfl wq307 dX9_readStep_267 ?_
          refine x_bipush hx hb dX9_readStep_270 (by decide) ?_
          refine x_iload_n hx hb hl 3 rfl dX9_readStep_272 rfl ?_
          refine x_goi (x_runVN (As := [.int (xJ 6), .int (xJ x1)]) hx hb hml hown hT hE hW hl.1 (Or.inl (by decide)) (so_1 h0 g _) rfl cf_X8_fails wq588 wq5 wn728 (c_X8_fails l D g T h0 s39 hW.2.1 6 (by decide) x1 rx1 hp40.1.1) ⟨rfl, rfl, ⟨by decide, by decide⟩, ⟨by decide, by decide⟩⟩ rfl rfl (Nat.le_of_ble_eq_true rfl) dX9_readStep_273) hW (fun x44 s45 H locs rx44 hp46 hW => ?_)
          obtain ⟨fs45, hp46⟩ := hp46
          have hF47 := hF41.call fs45 (fun k h => by omega)
          have ghp46 := hp46.2
          refine x_if_eq (tgt := 283) hx hb rx44 dX9_readStep_276 (by decide) (fun c48 => ?_) (fun c48 => ?_)
          · skip
            refine x_iconst hx hb dX9_readStep_283 ?_
            rw [eQ]
            exact x_zret hx hb hr hlk hW (by omega) ⟨hF47, ⟨hp46.1.1, (hp46.1.2.1.trans q42), trivial⟩, by omega⟩ dX9_readStep_284
          refine x_iconst hx hb dX9_readStep_279 ?_
          refine lv_goto (tgt := 284) hx hb dX9_readStep_280 (by decide) ?_
          rw [eQ]
          exact x_zret hx hb hr hlk hW (by omega) ⟨hF47, ⟨hp46.1.1, (hp46.1.2.1.trans q42), trivial⟩, by omega⟩ dX9_readStep_284
        refine x_aload_n hx hb hl 1 rfl dX9_readStep_222 rfl ?_
        refine x_get (j := 0) (v := .ref (h0 + 1)) hx hb hown hT hE hW cls_X9 (Or.inl (by decide)) (so_126 h0 g _) (by decide) rfl wq307 dX9_readStep_223 ?_
        refine x_bipush hx hb dX9_readStep_226 (by decide) ?_
        refine x_iload_n hx hb hl 3 rfl dX9_readStep_228 rfl ?_
        refine x_goi (x_runVN (As := [.int (xJ 6), .int (xJ x1)]) hx hb hml hown hT hE hW hl.1 (Or.inl (by decide)) (so_1 h0 g _) rfl cf_X8_fails wq588 wq5 wn728 (c_X8_fails l D g T h0 s19 hW.2.1 6 (by decide) x1 rx1 q20) ⟨rfl, rfl, ⟨by decide, by decide⟩, ⟨by decide, by decide⟩⟩ rfl rfl (Nat.le_of_ble_eq_true rfl) dX9_readStep_229) hW (fun x49 s50 H locs rx49 hp51 hW => ?_)
        obtain ⟨fs50, hp51⟩ := hp51
        have hF52 := hF23.call fs50 (fun k h => by omega)
        have q53 : s50 126 2 = x2 := (congrFun (fs50 _ (by omega)) _).trans q22
        have ghp51 := hp51.2
        rw [eQ]
        exact x_zret hx hb hr hlk hW (by omega) ⟨hF52, ⟨hp51.1.1, (hp51.1.2.1.trans q21), trivial⟩, by omega⟩ dX9_readStep_232
      refine x_aload_n hx hb hl 1 rfl dX9_readStep_184 rfl ?_
      refine x_get (j := 0) (v := .ref (h0 + 1)) hx hb hown hT hE hW cls_X9 (Or.inl (by decide)) (so_126 h0 g _) (by decide) rfl wq307 dX9_readStep_185 ?_
      refine x_iconst hx hb dX9_readStep_188 ?_
      refine x_aload_n hx hb hl 1 rfl dX9_readStep_189 rfl ?_
      refine x_get (j := 0) (v := .ref (h0 + 1)) hx hb hown hT hE hW cls_X9 (Or.inl (by decide)) (so_126 h0 g _) (by decide) rfl wq307 dX9_readStep_190 ?_
      refine x_getN (j := 3) (v := .int (xJ (s_65 1 3))) hx hb hown hT hE hW cls_X8 (Or.inl (by decide)) (so_1 h0 g _) (by decide) rfl wn202 dX9_readStep_193 ?_
      refine x_rd hW (fun x54 ex54 rx54 => ?_)
      refine x_goi (x_runVN (As := [.int (xJ 1), .int (xJ x54)]) hx hb hml hown hT hE hW hl.1 (Or.inl (by decide)) (so_1 h0 g _) rfl cf_X8_fails wq588 wq5 wn728 (c_X8_fails l D g T h0 s_65 hW.2.1 1 (by decide) x54 rx54 q65_0) ⟨rfl, rfl, ⟨by decide, by decide⟩, ⟨by decide, by decide⟩⟩ rfl rfl (Nat.le_of_ble_eq_true rfl) dX9_readStep_196) hW (fun x55 s56 H locs rx55 hp57 hW => ?_)
      obtain ⟨fs56, hp57⟩ := hp57
      have hF58 := hF_65.call fs56 (fun k h => by omega)
      have q59 : s56 126 2 = x2 := (congrFun (fs56 _ (by omega)) _).trans q65_2
      have ghp57 := hp57.2
      rw [eQ]
      exact x_zret hx hb hr hlk hW (by omega) ⟨hF58, ⟨hp57.1.1, (hp57.1.2.1.trans q65_1), trivial⟩, by omega⟩ dX9_readStep_199
    refine x_iload_n hx hb hl 1 rfl dX9_readStep_77 rfl ?_
    refine x_iconst hx hb dX9_readStep_78 ?_
    refine x_icmp_lt (tgt := 98) hx hb rq (by decide) dX9_readStep_79 (by decide) (fun c60 => ?_) (fun c60 => False.elim (by omega))
    refine x_aload_n hx hb hl 0 rfl dX9_readStep_98 rfl ?_
    refine x_get (j := 0) (v := .ref (h0 + 1)) hx hb hown hT hE hW cls_X9 (Or.inl (by decide)) (so_126 h0 g _) (by decide) rfl wq307 dX9_readStep_99 ?_
    refine lv_dup hx hb dX9_readStep_102 rfl ?_
    refine x_getN (j := 3) (v := .int (xJ (s_65 1 3))) hx hb hown hT hE hW cls_X8 (Or.inl (by decide)) (so_1 h0 g _) (by decide) rfl wn202 dX9_readStep_103 ?_
    refine x_rd hW (fun x61 ex61 rx61 => ?_)
    refine x_iconst hx hb dX9_readStep_106 ?_
    refine x_iadd hx hb dX9_readStep_107 ?_
    refine x_putN (j := 3) hx hb hown hT hE hW cls_X8 (by decide) (fun σ => so_1 h0 g σ) (by decide) (st_X8_3 h0 s_65 1 (x61 + 1)) (ln_X8_3 h0 _ _) wn202 rfl rfl rfl (by omega) dX9_readStep_108 (fun H locs s62 es62 hW => ?_)
    have q63 : IC s62 := by rw [es62]; exact IC_1 q65_0 (by omega)
    have q64 : s62 1 1 = s0 1 1 := (show s62 1 1 = s_65 1 1 from by rw [es62, xU_j _ _ (by decide)]).trans q65_1
    have q65 : s62 126 2 = x2 := (show s62 126 2 = s_65 126 2 from by rw [es62, xU_k _ _ _ (by omega)]).trans q65_2
    have hF66 := hF_65.put es62 (by omega)
    refine x_aload_n hx hb hl 0 rfl dX9_readStep_111 rfl ?_
    refine x_iload_n hx hb hl 1 rfl dX9_readStep_112 rfl ?_
    refine x_iconst hx hb dX9_readStep_113 ?_
    refine x_iadd hx hb dX9_readStep_114 ?_
    refine x_goi (x_runV (As := [.int (xJ (q + 1))]) hx hb hml hown hT hE hW hl.1 (Or.inl (by decide)) (so_126 h0 g _) rfl cf_X9_readSteps wq721 wq29 wq719 (c_X9_readStepsL1 l D g T h0 s62 hW.2.1 (q + 1) (by omega) (by omega) q63) ⟨rfl, rfl, ⟨by decide, by decide⟩, ⟨by decide, by decide⟩⟩ rfl rfl (Nat.le_of_ble_eq_true rfl) dX9_readStep_115) hW (fun x67 s68 H locs rx67 hp69 hW => ?_)
    obtain ⟨fs68, hp69⟩ := hp69
    have hF70 := hF66.call fs68 (fun k h => by omega)
    have ghp69 := hp69.2
    refine x_if_eq (tgt := 133) hx hb rx67 dX9_readStep_118 (by decide) (fun c71 => ?_) (fun c71 => ?_)
    · skip
      refine x_iconst hx hb dX9_readStep_133 ?_
      rw [eQ]
      exact x_zret hx hb hr hlk hW (by omega) ⟨hF70, ⟨hp69.1.1, (hp69.1.2.1.trans q64), trivial⟩, by omega⟩ dX9_readStep_134
    refine x_aload_n hx hb hl 0 rfl dX9_readStep_121 rfl ?_
    refine x_get (j := 0) (v := .ref (h0 + 1)) hx hb hown hT hE hW cls_X9 (Or.inl (by decide)) (so_126 h0 g _) (by decide) rfl wq307 dX9_readStep_122 ?_
    refine x_bipush hx hb dX9_readStep_125 (by decide) ?_
    refine x_goi (x_runVN (As := [.int (xJ 41)]) hx hb hml hown hT hE hW hl.1 (Or.inl (by decide)) (so_1 h0 g _) rfl cf_X8_passes wq598 wq6 wn729 (c_X8_passes l D g T h0 s68 hW.2.1 41 (by decide) hp69.1.1) ⟨rfl, rfl, ⟨by decide, by decide⟩, ⟨by decide, by decide⟩⟩ rfl rfl (Nat.le_of_ble_eq_true rfl) dX9_readStep_127) hW (fun x72 s73 H locs rx72 hp74 hW => ?_)
    obtain ⟨fs73, hp74⟩ := hp74
    have hF75 := hF70.call fs73 (fun k h => by omega)
    have ghp74 := hp74.2
    refine x_if_ne (tgt := 135) hx hb rx72 dX9_readStep_130 (by decide) (fun c76 => ?_) (fun c76 => ?_)
    · skip
      refine x_aload_n hx hb hl 0 rfl dX9_readStep_135 rfl ?_
      refine x_iload_n hx hb hl 3 rfl dX9_readStep_136 rfl ?_
      refine x_iload hx hb hl 4 rfl dX9_readStep_137 ?_
      refine x_iconst hx hb dX9_readStep_139 ?_
      refine x_isub hx hb dX9_readStep_140 ?_
      refine x_goi (x_runV (As := [.int (xJ x2), .int (xJ (i4_65 - 1))]) hx hb hml hown hT hE hW hl.1 (Or.inl (by decide)) (so_126 h0 g _) rfl cf_X9_repeat wq732 wq31 wq730 (c_X9_repeat l D g T h0 s73 hW.2.1 x2 rx2 (i4_65 - 1) (by omega) (by omega) (by omega) hp74.1.1) ⟨rfl, rfl, ⟨by decide, by decide⟩, ⟨by decide, by decide⟩⟩ rfl rfl (Nat.le_of_ble_eq_true rfl) dX9_readStep_141) hW (fun x77 s78 H locs rx77 hp79 hW => ?_)
      obtain ⟨fs78, hp79⟩ := hp79
      have hF80 := hF75.call fs78 (fun k h => by omega)
      have q81 : s78 1 1 = s0 1 1 := (congrFun (fs78 _ (by omega)) _).trans (hp74.1.2.1.trans (hp69.1.2.1.trans q64))
      have ghp79 := hp79.2
      refine x_if_ne (tgt := 160) hx hb rx77 dX9_readStep_144 (by decide) (fun c82 => ?_) (fun c82 => ?_)
      · skip
        refine x_iconst hx hb dX9_readStep_160 ?_
        refine lv_goto (tgt := 165) hx hb dX9_readStep_161 (by decide) ?_
        rw [eQ]
        exact x_zret hx hb hr hlk hW (by omega) ⟨hF80, ⟨hp79.1.1, q81, trivial⟩, by omega⟩ dX9_readStep_165
      refine x_aload_n hx hb hl 0 rfl dX9_readStep_147 rfl ?_
      refine x_get (j := 0) (v := .ref (h0 + 1)) hx hb hown hT hE hW cls_X9 (Or.inl (by decide)) (so_126 h0 g _) (by decide) rfl wq307 dX9_readStep_148 ?_
      refine x_bipush hx hb dX9_readStep_151 (by decide) ?_
      refine x_iload_n hx hb hl 2 rfl dX9_readStep_153 rfl ?_
      refine x_goi (x_runVN (As := [.int (xJ 6), .int (xJ x1)]) hx hb hml hown hT hE hW hl.1 (Or.inl (by decide)) (so_1 h0 g _) rfl cf_X8_fails wq588 wq5 wn728 (c_X8_fails l D g T h0 s78 hW.2.1 6 (by decide) x1 rx1 hp79.1.1) ⟨rfl, rfl, ⟨by decide, by decide⟩, ⟨by decide, by decide⟩⟩ rfl rfl (Nat.le_of_ble_eq_true rfl) dX9_readStep_154) hW (fun x83 s84 H locs rx83 hp85 hW => ?_)
      obtain ⟨fs84, hp85⟩ := hp85
      have hF86 := hF80.call fs84 (fun k h => by omega)
      have ghp85 := hp85.2
      refine x_if_eq (tgt := 164) hx hb rx83 dX9_readStep_157 (by decide) (fun c87 => ?_) (fun c87 => ?_)
      · skip
        refine x_iconst hx hb dX9_readStep_164 ?_
        rw [eQ]
        exact x_zret hx hb hr hlk hW (by omega) ⟨hF86, ⟨hp85.1.1, (hp85.1.2.1.trans q81), trivial⟩, by omega⟩ dX9_readStep_165
      refine x_iconst hx hb dX9_readStep_160 ?_
      refine lv_goto (tgt := 165) hx hb dX9_readStep_161 (by decide) ?_
      rw [eQ]
      exact x_zret hx hb hr hlk hW (by omega) ⟨hF86, ⟨hp85.1.1, (hp85.1.2.1.trans q81), trivial⟩, by omega⟩ dX9_readStep_165
    refine x_iconst hx hb dX9_readStep_133 ?_
    rw [eQ]
    exact x_zret hx hb hr hlk hW (by omega) ⟨hF75, ⟨hp74.1.1, (hp74.1.2.1.trans (hp69.1.2.1.trans q64)), trivial⟩, by omega⟩ dX9_readStep_134
  refine x_icmp_lt (tgt := 65) hx hb rx4 (by decide) dX9_readStep_25 (by decide) (fun c88 => ?_) (fun c88 => ?_)
  · skip
    exact J65 1 s0 H locs ls (by decide) hF p0 k1_1 q3 (by omega) hW (lv_sub hl [3, 4, 2, 1, 0] rfl)
  refine x_aload_n hx hb hl 3 rfl dX9_readStep_28 rfl ?_
  refine x_get (j := 0) (v := .ref (h0 + 1)) hx hb hown hT hE hW cls_X9 (Or.inl (by decide)) (so_126 h0 g _) (by decide) rfl wq307 dX9_readStep_29 ?_
  refine x_goi (x_runVN (As := []) hx hb hml hown hT hE hW hl.1 (Or.inl (by decide)) (so_1 h0 g _) rfl cf_X8_sign wq581 wq4 wn727 (c_X8_sign l D g T h0 s0 hW.2.1 p0) ⟨rfl, rfl, ⟨by decide, by decide⟩, ⟨by decide, by decide⟩⟩ rfl rfl (Nat.le_of_ble_eq_true rfl) dX9_readStep_32) hW (fun x89 s90 H locs rx89 hp91 hW => ?_)
  obtain ⟨es90, hp91⟩ := hp91
  subst es90
  have ghp91 := hp91
  refine x_bipush hx hb dX9_readStep_35 (by decide) ?_
  refine x_icmp_gt (tgt := 65) hx hb rx89 (by decide) dX9_readStep_37 (by decide) (fun c92 => ?_) (fun c92 => ?_)
  · skip
    exact J65 1 s0 H locs ls (by decide) hF p0 k1_1 q3 (by omega) hW (lv_sub hl [3, 4, 2, 1, 0] rfl)
  refine x_aload_n hx hb hl 3 rfl dX9_readStep_40 rfl ?_
  refine x_get (j := 0) (v := .ref (h0 + 1)) hx hb hown hT hE hW cls_X9 (Or.inl (by decide)) (so_126 h0 g _) (by decide) rfl wq307 dX9_readStep_41 ?_
  refine x_goi (x_runVN (As := []) hx hb hml hown hT hE hW hl.1 (Or.inl (by decide)) (so_1 h0 g _) rfl cf_X8_sign wq581 wq4 wn727 (c_X8_sign l D g T h0 s0 hW.2.1 p0) ⟨rfl, rfl, ⟨by decide, by decide⟩, ⟨by decide, by decide⟩⟩ rfl rfl (Nat.le_of_ble_eq_true rfl) dX9_readStep_44) hW (fun x93 s94 H locs rx93 hp95 hW => ?_)
  obtain ⟨es94, hp95⟩ := hp95
  subst es94
  have ghp95 := hp95
  refine x_bipush hx hb dX9_readStep_47 (by decide) ?_
  refine x_isub hx hb dX9_readStep_49 ?_
  refine x_nm (fun x96 ex96 => ?_)
  refine lv_istore (lv' := [(4, .int (xJ x96)), (3, .int (xJ x2)), (2, .int (xJ x1)), (0, .ref (h0 + 126)), (1, .int (xJ q))]) hx hb dX9_readStep_50 hl (by decide) rfl (fun ls hl => ?_)
  refine x_aload_n hx hb hl 3 rfl dX9_readStep_52 rfl ?_
  refine x_get (j := 0) (v := .ref (h0 + 1)) hx hb hown hT hE hW cls_X9 (Or.inl (by decide)) (so_126 h0 g _) (by decide) rfl wq307 dX9_readStep_53 ?_
  refine lv_dup hx hb dX9_readStep_56 rfl ?_
  refine x_getN (j := 3) (v := .int (xJ (s0 1 3))) hx hb hown hT hE hW cls_X8 (Or.inl (by decide)) (so_1 h0 g _) (by decide) rfl wn202 dX9_readStep_57 ?_
  refine x_rd hW (fun x97 ex97 rx97 => ?_)
  refine x_iconst hx hb dX9_readStep_60 ?_
  refine x_iadd hx hb dX9_readStep_61 ?_
  refine x_putN (j := 3) hx hb hown hT hE hW cls_X8 (by decide) (fun σ => so_1 h0 g σ) (by decide) (st_X8_3 h0 s0 1 (x97 + 1)) (ln_X8_3 h0 _ _) wn202 rfl rfl rfl (by omega) dX9_readStep_62 (fun H locs s98 es98 hW => ?_)
  have q99 : IC s98 := by rw [es98]; exact IC_1 p0 (by omega)
  have q100 : s98 1 1 = s0 1 1 := (show s98 1 1 = s0 1 1 from by rw [es98, xU_j _ _ (by decide)]).trans k1_1
  have q101 : s98 126 2 = x2 := (show s98 126 2 = s0 126 2 from by rw [es98, xU_k _ _ _ (by omega)]).trans q3
  have hF102 := hF.put es98 (by omega)
  exact J65 x96 s98 H locs ls (by omega) hF102 q99 q100 q101 (by omega) hW (lv_sub hl [3, 4, 2, 1, 0] rfl)
set_option maxHeartbeats 4000000 in
set_option maxRecDepth 100000 in
theorem c_X9_readStepsL0 (l : Launch) (D : va_G) (g : xG) (T : Nat × Nat × Nat) (h0 : Nat) (s0 : xS) (hσ : xRR s0) (q : Int) (rq : xR q) (hq : q = 0) (p0 : IC s0) : Met l yX9_readSteps (xws yX9_readSteps cX9_readSteps 4 (some .boolean)) { frames := 6, cells := 0, slots := 0, locals := 145 } (xP [.ref (h0 + 126), .int (xJ q)] D g T h0 s0) (xQi D g h0 (fun r τ => xFr (fun k => k = 1 ∨ k = 126 ∨ k = 127) s0 τ ∧ (((IC τ) ∧ (τ 1 1 = s0 1 1) ∧ True) ∧ (r = 0 ∨ r = 1)))) 0 0 (xA h0) := by
  refine x_met hσ (by decide) (Nat.le_of_ble_eq_true rfl) ?_
  intro p e s m args below meth c hx hb hr hml hown hT hlk hnm hE hW ls hl
  have hl : lv_has ls 4 [(0, .ref (h0 + 126)), (1, .int (xJ q))] := hl
  obtain ⟨Q, eQ⟩ : ∃ Q, Q = MQ below (xQi D g h0 (fun r τ => xFr (fun k => k = 1 ∨ k = 126 ∨ k = 127) s0 τ ∧ (((IC τ) ∧ (τ 1 1 = s0 1 1) ∧ True) ∧ (r = 0 ∨ r = 1)))) args s 0 0 (xA h0) := ⟨_, rfl⟩
  rw [← eQ]
  generalize hHe : ([] : List Loc) = locs at hW ⊢
  obtain ⟨H, eH⟩ : ∃ H, H = s.heap := ⟨_, rfl⟩
  rw [← eH] at hW ⊢
  have hF : xFr (fun k => k = 1 ∨ k = 126 ∨ k = 127) s0 s0 := xFr.rf
  have k1_1 : s0 1 1 = s0 1 1 := rfl
  refine x_iload_n hx hb hl 1 rfl dX9_readSteps_0 rfl ?_
  refine x_if_ne (tgt := 8) hx hb rq dX9_readSteps_1 (by decide) (fun c1 => ?_) (fun c1 => ?_)
  · skip
    refine x_bipush hx hb dX9_readSteps_8 (by decide) ?_
    refine lv_istore_n (lv' := [(2, .int (xJ 41)), (0, .ref (h0 + 126)), (1, .int (xJ q))]) hx hb dX9_readSteps_10 rfl hl (by decide) rfl (fun ls hl => ?_)
    refine x_iconst hx hb dX9_readSteps_11 ?_
    refine lv_istore_n (lv' := [(3, .int (xJ 0)), (2, .int (xJ 41)), (0, .ref (h0 + 126)), (1, .int (xJ q))]) hx hb dX9_readSteps_12 rfl hl (by decide) rfl (fun ls hl => ?_)
    have L13 : ∀ (fu : Nat) (i3_13 : Int) (s_13 : xS) (H : Heap) (locs : List Loc) (ls : Array Slot), (xR i3_13) → (xFr (fun k => k = 1 ∨ k = 126 ∨ k = 127) s0 s_13) → (IC s_13) → (s_13 1 1 = s0 1 1) → (0 ≤ i3_13) → (i3_13 ≤ 80) → (80 + 1 - i3_13).toNat < fu → xW D g h0 s H locs s_13 → lv_has ls 4 [(0, .ref (h0 + 126)), (1, .int (xJ q)), (2, .int (xJ 41)), (3, .int (xJ i3_13))] → W p l e { frames := 6, cells := 0, slots := 0, locals := 145 } s m args below meth c H locs 0 0 Q (F0 m 13 ls []) := by
      intro fu
      induction fu with
      | zero => intro i3_13 s_13 H locs ls ri3_13 hF_13 q13_0 q13_1 v13_0 v13_1 hm; exact absurd hm (Nat.not_lt_zero _)
      | succ fu ih13 =>
        intro i3_13 s_13 H locs ls ri3_13 hF_13 q13_0 q13_1 v13_0 v13_1 hm hW hl
        refine x_iload_n hx hb hl 3 rfl dX9_readSteps_13 rfl ?_
        refine x_bipush hx hb dX9_readSteps_14 (by decide) ?_
        refine x_icmp_ge (tgt := 48) hx hb ri3_13 (by decide) dX9_readSteps_16 (by decide) (fun c2 => ?_) (fun c2 => ?_)
        · skip
          refine x_iconst hx hb dX9_readSteps_48 ?_
          rw [eQ]
          exact x_zret hx hb hr hlk hW (by omega) ⟨hF_13, ⟨q13_0, q13_1, trivial⟩, by omega⟩ dX9_readSteps_49
        refine x_aload_n hx hb hl 0 rfl dX9_readSteps_19 rfl ?_
        refine x_iload_n hx hb hl 1 rfl dX9_readSteps_20 rfl ?_
        refine x_goi (x_runV (As := [.int (xJ q)]) hx hb hml hown hT hE hW hl.1 (Or.inl (by decide)) (so_126 h0 g _) rfl cf_X9_readStep wq725 wq30 wq723 (c_X9_readStepL0 l D g T h0 s_13 hW.2.1 q rq (by omega) q13_0) ⟨rfl, rfl, ⟨by decide, by decide⟩, ⟨by decide, by decide⟩⟩ rfl rfl (Nat.le_of_ble_eq_true rfl) dX9_readSteps_21) hW (fun x3 s4 H locs rx3 hp5 hW => ?_)
        obtain ⟨fs4, hp5⟩ := hp5
        have hF6 := hF_13.call fs4 (fun k h => by omega)
        have ghp5 := hp5.2
        refine x_if_ne (tgt := 29) hx hb rx3 dX9_readSteps_24 (by decide) (fun c7 => ?_) (fun c7 => ?_)
        · skip
          refine x_aload_n hx hb hl 0 rfl dX9_readSteps_29 rfl ?_
          refine x_get (j := 0) (v := .ref (h0 + 1)) hx hb hown hT hE hW cls_X9 (Or.inl (by decide)) (so_126 h0 g _) (by decide) rfl wq307 dX9_readSteps_30 ?_
          refine x_goi (x_runVN (As := []) hx hb hml hown hT hE hW hl.1 (Or.inl (by decide)) (so_1 h0 g _) rfl cf_X8_sign wq581 wq4 wn727 (c_X8_sign l D g T h0 s4 hW.2.1 hp5.1.1) ⟨rfl, rfl, ⟨by decide, by decide⟩, ⟨by decide, by decide⟩⟩ rfl rfl (Nat.le_of_ble_eq_true rfl) dX9_readSteps_33) hW (fun x8 s9 H locs rx8 hp10 hW => ?_)
          obtain ⟨es9, hp10⟩ := hp10
          subst es9
          have ghp10 := hp10
          refine x_iload_n hx hb hl 2 rfl dX9_readSteps_36 rfl ?_
          refine x_icmp_ne (tgt := 42) hx hb rx8 (by decide) dX9_readSteps_37 (by decide) (fun c11 => ?_) (fun c11 => ?_)
          · skip
            refine x_iinc (lv' := [(3, .int (xJ (i3_13 + 1))), (0, .ref (h0 + 126)), (1, .int (xJ q)), (2, .int (xJ 41))]) hx hb hl 3 rfl dX9_readSteps_42 (by decide) rfl (fun ls hl => ?_)
            refine lv_goto (tgt := 13) hx hb dX9_readSteps_45 (by decide) ?_
            exact ih13 (i3_13 + 1) s4 H locs ls (by omega) hF6 hp5.1.1 (hp5.1.2.1.trans q13_1) (by omega) (by omega) (by omega) hW (lv_sub hl [1, 2, 3, 0] rfl)
          refine x_iconst hx hb dX9_readSteps_40 ?_
          rw [eQ]
          exact x_zret hx hb hr hlk hW (by omega) ⟨hF6, ⟨hp5.1.1, (hp5.1.2.1.trans q13_1), trivial⟩, by omega⟩ dX9_readSteps_41
        refine x_iconst hx hb dX9_readSteps_27 ?_
        rw [eQ]
        exact x_zret hx hb hr hlk hW (by omega) ⟨hF6, ⟨hp5.1.1, (hp5.1.2.1.trans q13_1), trivial⟩, by omega⟩ dX9_readSteps_28
    exact L13 ((80 + 1 - 0 : Int).toNat + 1) 0 s0 H locs ls (by decide) hF p0 k1_1 (by omega) (by omega) (Nat.lt_succ_self _) hW (lv_sub hl [2, 3, 1, 0] rfl)
  refine x_iconst hx hb dX9_readSteps_4 ?_
  refine lv_goto (tgt := 10) hx hb dX9_readSteps_5 (by decide) ?_
  refine lv_istore_n (lv' := [(2, .int (xJ (-1))), (0, .ref (h0 + 126)), (1, .int (xJ q))]) hx hb dX9_readSteps_10 rfl hl (by decide) rfl (fun ls hl => ?_)
  refine x_iconst hx hb dX9_readSteps_11 ?_
  refine lv_istore_n (lv' := [(3, .int (xJ 0)), (2, .int (xJ (-1))), (0, .ref (h0 + 126)), (1, .int (xJ q))]) hx hb dX9_readSteps_12 rfl hl (by decide) rfl (fun ls hl => ?_)
  have L13 : ∀ (fu : Nat) (i3_13 : Int) (s_13 : xS) (H : Heap) (locs : List Loc) (ls : Array Slot), (xR i3_13) → (xFr (fun k => k = 1 ∨ k = 126 ∨ k = 127) s0 s_13) → (IC s_13) → (s_13 1 1 = s0 1 1) → (0 ≤ i3_13) → (i3_13 ≤ 80) → (80 + 1 - i3_13).toNat < fu → xW D g h0 s H locs s_13 → lv_has ls 4 [(0, .ref (h0 + 126)), (1, .int (xJ q)), (2, .int (xJ (-1))), (3, .int (xJ i3_13))] → W p l e { frames := 6, cells := 0, slots := 0, locals := 145 } s m args below meth c H locs 0 0 Q (F0 m 13 ls []) := by
    intro fu
    induction fu with
    | zero => intro i3_13 s_13 H locs ls ri3_13 hF_13 q13_0 q13_1 v13_0 v13_1 hm; exact absurd hm (Nat.not_lt_zero _)
    | succ fu ih13 =>
      intro i3_13 s_13 H locs ls ri3_13 hF_13 q13_0 q13_1 v13_0 v13_1 hm hW hl
      refine x_iload_n hx hb hl 3 rfl dX9_readSteps_13 rfl ?_
      refine x_bipush hx hb dX9_readSteps_14 (by decide) ?_
      refine x_icmp_ge (tgt := 48) hx hb ri3_13 (by decide) dX9_readSteps_16 (by decide) (fun c12 => ?_) (fun c12 => ?_)
      · skip
        refine x_iconst hx hb dX9_readSteps_48 ?_
        rw [eQ]
        exact x_zret hx hb hr hlk hW (by omega) ⟨hF_13, ⟨q13_0, q13_1, trivial⟩, by omega⟩ dX9_readSteps_49
      refine x_aload_n hx hb hl 0 rfl dX9_readSteps_19 rfl ?_
      refine x_iload_n hx hb hl 1 rfl dX9_readSteps_20 rfl ?_
      refine x_goi (x_runV (As := [.int (xJ q)]) hx hb hml hown hT hE hW hl.1 (Or.inl (by decide)) (so_126 h0 g _) rfl cf_X9_readStep wq725 wq30 wq723 (c_X9_readStepL0 l D g T h0 s_13 hW.2.1 q rq (by omega) q13_0) ⟨rfl, rfl, ⟨by decide, by decide⟩, ⟨by decide, by decide⟩⟩ rfl rfl (Nat.le_of_ble_eq_true rfl) dX9_readSteps_21) hW (fun x13 s14 H locs rx13 hp15 hW => ?_)
      obtain ⟨fs14, hp15⟩ := hp15
      have hF16 := hF_13.call fs14 (fun k h => by omega)
      have ghp15 := hp15.2
      refine x_if_ne (tgt := 29) hx hb rx13 dX9_readSteps_24 (by decide) (fun c17 => ?_) (fun c17 => ?_)
      · skip
        refine x_aload_n hx hb hl 0 rfl dX9_readSteps_29 rfl ?_
        refine x_get (j := 0) (v := .ref (h0 + 1)) hx hb hown hT hE hW cls_X9 (Or.inl (by decide)) (so_126 h0 g _) (by decide) rfl wq307 dX9_readSteps_30 ?_
        refine x_goi (x_runVN (As := []) hx hb hml hown hT hE hW hl.1 (Or.inl (by decide)) (so_1 h0 g _) rfl cf_X8_sign wq581 wq4 wn727 (c_X8_sign l D g T h0 s14 hW.2.1 hp15.1.1) ⟨rfl, rfl, ⟨by decide, by decide⟩, ⟨by decide, by decide⟩⟩ rfl rfl (Nat.le_of_ble_eq_true rfl) dX9_readSteps_33) hW (fun x18 s19 H locs rx18 hp20 hW => ?_)
        obtain ⟨es19, hp20⟩ := hp20
        subst es19
        have ghp20 := hp20
        refine x_iload_n hx hb hl 2 rfl dX9_readSteps_36 rfl ?_
        refine x_icmp_ne (tgt := 42) hx hb rx18 (by decide) dX9_readSteps_37 (by decide) (fun c21 => ?_) (fun c21 => ?_)
        · skip
          refine x_iinc (lv' := [(3, .int (xJ (i3_13 + 1))), (0, .ref (h0 + 126)), (1, .int (xJ q)), (2, .int (xJ (-1)))]) hx hb hl 3 rfl dX9_readSteps_42 (by decide) rfl (fun ls hl => ?_)
          refine lv_goto (tgt := 13) hx hb dX9_readSteps_45 (by decide) ?_
          exact ih13 (i3_13 + 1) s14 H locs ls (by omega) hF16 hp15.1.1 (hp15.1.2.1.trans q13_1) (by omega) (by omega) (by omega) hW (lv_sub hl [1, 2, 3, 0] rfl)
        refine x_iconst hx hb dX9_readSteps_40 ?_
        rw [eQ]
        exact x_zret hx hb hr hlk hW (by omega) ⟨hF16, ⟨hp15.1.1, (hp15.1.2.1.trans q13_1), trivial⟩, by omega⟩ dX9_readSteps_41
      refine x_iconst hx hb dX9_readSteps_27 ?_
      rw [eQ]
      exact x_zret hx hb hr hlk hW (by omega) ⟨hF16, ⟨hp15.1.1, (hp15.1.2.1.trans q13_1), trivial⟩, by omega⟩ dX9_readSteps_28
  exact L13 ((80 + 1 - 0 : Int).toNat + 1) 0 s0 H locs ls (by decide) hF p0 k1_1 (by omega) (by omega) (Nat.lt_succ_self _) hW (lv_sub hl [2, 3, 1, 0] rfl)
set_option maxHeartbeats 4000000 in
set_option maxRecDepth 100000 in
theorem c_X9_readWhole (l : Launch) (D : va_G) (g : xG) (T : Nat × Nat × Nat) (h0 : Nat) (s0 : xS) (hσ : xRR s0) (p0 : IC s0) : Met l yX9_readWhole (xws yX9_readWhole cX9_readWhole 1 (some .boolean)) { frames := 7, cells := 0, slots := 0, locals := 168 } (xP [.ref (h0 + 126)] D g T h0 s0) (xQi D g h0 (fun r τ => xFr (fun k => k = 1 ∨ k = 126 ∨ k = 127) s0 τ ∧ (((IC τ) ∧ (τ 1 1 = s0 1 1) ∧ True) ∧ (r = 0 ∨ r = 1)))) 0 0 (xA h0) := by
  refine x_met hσ (by decide) (Nat.le_of_ble_eq_true rfl) ?_
  intro p e s m args below meth c hx hb hr hml hown hT hlk hnm hE hW ls hl
  have hl : lv_has ls 1 [(0, .ref (h0 + 126))] := hl
  obtain ⟨Q, eQ⟩ : ∃ Q, Q = MQ below (xQi D g h0 (fun r τ => xFr (fun k => k = 1 ∨ k = 126 ∨ k = 127) s0 τ ∧ (((IC τ) ∧ (τ 1 1 = s0 1 1) ∧ True) ∧ (r = 0 ∨ r = 1)))) args s 0 0 (xA h0) := ⟨_, rfl⟩
  rw [← eQ]
  generalize hHe : ([] : List Loc) = locs at hW ⊢
  obtain ⟨H, eH⟩ : ∃ H, H = s.heap := ⟨_, rfl⟩
  rw [← eH] at hW ⊢
  have hF : xFr (fun k => k = 1 ∨ k = 126 ∨ k = 127) s0 s0 := xFr.rf
  have k1_1 : s0 1 1 = s0 1 1 := rfl
  refine x_aload_n hx hb hl 0 rfl dX9_readWhole_0 rfl ?_
  refine x_iconst hx hb dX9_readWhole_1 ?_
  refine x_put (j := 2) hx hb hown hT hE hW cls_X9 (by decide) (fun σ => so_126 h0 g σ) (by decide) (st_X9_2 h0 s0 126 0) (ln_X9_2 h0 _ _) wq309 rfl rfl rfl (by decide) dX9_readWhole_2 (fun H locs s1 es1 hW => ?_)
  have q2 : IC s1 := by rw [es1]; exact IC_126 p0 (by omega)
  have q3 : s1 1 1 = s0 1 1 := (show s1 1 1 = s0 1 1 from by rw [es1, xU_k _ _ _ (by omega)]).trans k1_1
  have hF4 := hF.put es1 (by omega)
  refine x_aload_n hx hb hl 0 rfl dX9_readWhole_5 rfl ?_
  refine x_iconst hx hb dX9_readWhole_6 ?_
  refine x_goi (x_runV (As := [.int (xJ 0)]) hx hb hml hown hT hE hW hl.1 (Or.inl (by decide)) (so_126 h0 g _) rfl cf_X9_readSteps wq721 wq29 wq719 (c_X9_readStepsL0 l D g T h0 s1 hW.2.1 0 (by decide) (by omega) q2) ⟨rfl, rfl, ⟨by decide, by decide⟩, ⟨by decide, by decide⟩⟩ rfl rfl (Nat.le_of_ble_eq_true rfl) dX9_readWhole_7) hW (fun x5 s6 H locs rx5 hp7 hW => ?_)
  obtain ⟨fs6, hp7⟩ := hp7
  have hF8 := hF4.call fs6 (fun k h => by omega)
  have ghp7 := hp7.2
  rw [eQ]
  exact x_zret hx hb hr hlk hW (by omega) ⟨hF8, ⟨hp7.1.1, (hp7.1.2.1.trans q3), trivial⟩, by omega⟩ dX9_readWhole_10
set_option maxHeartbeats 4000000 in
set_option maxRecDepth 100000 in
theorem c_X6_readRow (l : Launch) (D : va_G) (g : xG) (T : Nat × Nat × Nat) (h0 : Nat) (s0 : xS) (hσ : xRR s0) (y : Int) (ry : xR y) (hy : 0 ≤ y ∧ y < 10) (p0 : IC s0) : Met l yX6_readRow (xws yX6_readRow cX6_readRow 8 (some .boolean)) { frames := 1, cells := 0, slots := 0, locals := 22 } (xP [.ref (h0 + 3), .ref (h0 + 1), .int (xJ y)] D g T h0 s0) (xQi D g h0 (fun r τ => xFr (fun k => k = 1 ∨ k = 5) s0 τ ∧ (((IC τ) ∧ (τ 1 1 = s0 1 1) ∧ True) ∧ (r = 0 ∨ r = 1)))) 0 0 (xA h0) := by
  refine x_met hσ (by decide) (Nat.le_of_ble_eq_true rfl) ?_
  intro p e s m args below meth c hx hb hr hml hown hT hlk hnm hE hW ls hl
  have hl : lv_has ls 8 [(0, .ref (h0 + 3)), (1, .ref (h0 + 1)), (2, .int (xJ y))] := hl
  obtain ⟨Q, eQ⟩ : ∃ Q, Q = MQ below (xQi D g h0 (fun r τ => xFr (fun k => k = 1 ∨ k = 5) s0 τ ∧ (((IC τ) ∧ (τ 1 1 = s0 1 1) ∧ True) ∧ (r = 0 ∨ r = 1)))) args s 0 0 (xA h0) := ⟨_, rfl⟩
  rw [← eQ]
  generalize hHe : ([] : List Loc) = locs at hW ⊢
  obtain ⟨H, eH⟩ : ∃ H, H = s.heap := ⟨_, rfl⟩
  rw [← eH] at hW ⊢
  have hF : xFr (fun k => k = 1 ∨ k = 5) s0 s0 := xFr.rf
  have k1_1 : s0 1 1 = s0 1 1 := rfl
  refine x_iconst hx hb dX6_readRow_0 ?_
  refine lv_istore_n (lv' := [(3, .int (xJ 0)), (0, .ref (h0 + 3)), (1, .ref (h0 + 1)), (2, .int (xJ y))]) hx hb dX6_readRow_1 rfl hl (by decide) rfl (fun ls hl => ?_)
  refine x_iconst hx hb dX6_readRow_2 ?_
  refine lv_istore (lv' := [(4, .int (xJ 0)), (3, .int (xJ 0)), (0, .ref (h0 + 3)), (1, .ref (h0 + 1)), (2, .int (xJ y))]) hx hb dX6_readRow_3 hl (by decide) rfl (fun ls hl => ?_)
  have L5 : ∀ (fu : Nat) (i3_5 : Int) (i4_5 : Int) (s_5 : xS) (H : Heap) (locs : List Loc) (ls : Array Slot), (xR i3_5) → (xR i4_5) → (xFr (fun k => k = 1 ∨ k = 5) s0 s_5) → (IC s_5) → (s_5 1 1 = s0 1 1) → (0 ≤ i4_5) → (i4_5 ≤ 10) → (0 ≤ i3_5) → (10 + 1 - i4_5).toNat < fu → xW D g h0 s H locs s_5 → lv_has ls 8 [(0, .ref (h0 + 3)), (1, .ref (h0 + 1)), (2, .int (xJ y)), (3, .int (xJ i3_5)), (4, .int (xJ i4_5))] → W p l e { frames := 1, cells := 0, slots := 0, locals := 22 } s m args below meth c H locs 0 0 Q (F0 m 5 ls []) := by
    intro fu
    induction fu with
    | zero => intro i3_5 i4_5 s_5 H locs ls ri3_5 ri4_5 hF_5 q5_0 q5_1 v5_0 v5_1 v5_2 hm; exact absurd hm (Nat.not_lt_zero _)
    | succ fu ih5 =>
      intro i3_5 i4_5 s_5 H locs ls ri3_5 ri4_5 hF_5 q5_0 q5_1 v5_0 v5_1 v5_2 hm hW hl
      refine x_iload hx hb hl 4 rfl dX6_readRow_5 ?_
      refine x_bipush hx hb dX6_readRow_7 (by decide) ?_
      refine x_icmp_ge (tgt := 144) hx hb ri4_5 (by decide) dX6_readRow_9 (by decide) (fun c1 => ?_) (fun c1 => ?_)
      · skip
        refine x_iconst hx hb dX6_readRow_144 ?_
        rw [eQ]
        exact x_zret hx hb hr hlk hW (by omega) ⟨hF_5, ⟨q5_0, q5_1, trivial⟩, by omega⟩ dX6_readRow_145
      refine x_iload_n hx hb hl 3 rfl dX6_readRow_12 rfl ?_
      refine x_bipush hx hb dX6_readRow_13 (by decide) ?_
      refine x_icmp_ge (tgt := 144) hx hb ri3_5 (by decide) dX6_readRow_15 (by decide) (fun c2 => ?_) (fun c2 => ?_)
      · skip
        refine x_iconst hx hb dX6_readRow_144 ?_
        rw [eQ]
        exact x_zret hx hb hr hlk hW (by omega) ⟨hF_5, ⟨q5_0, q5_1, trivial⟩, by omega⟩ dX6_readRow_145
      refine x_aload_n hx hb hl 1 rfl dX6_readRow_18 rfl ?_
      refine x_goi (x_runVN (As := []) hx hb hml hown hT hE hW hl.1 (Or.inl (by decide)) (so_1 h0 g _) rfl cf_X8_sign wq581 wq4 wn579 (c_X8_sign l D g T h0 s_5 hW.2.1 q5_0) ⟨rfl, rfl, ⟨by decide, by decide⟩, ⟨by decide, by decide⟩⟩ rfl rfl (Nat.le_of_ble_eq_true rfl) dX6_readRow_19) hW (fun x3 s4 H locs rx3 hp5 hW => ?_)
      obtain ⟨es4, hp5⟩ := hp5
      subst es4
      have ghp5 := hp5
      refine x_goi (x_runS (As := [.int (xJ x3)]) hx hb hml hown hT hE hW hl.1 cf_X6_timesOf wq584 wq583 (c_X6_timesOf l D g T h0 s_5 hW.2.1 x3 rx3) ⟨rfl, rfl, ⟨by decide, by decide⟩, ⟨by decide, by decide⟩⟩ rfl rfl (Nat.le_of_ble_eq_true rfl) dX6_readRow_22) hW (fun x6 s7 H locs rx6 hp8 hW => ?_)
      obtain ⟨es7, hp8⟩ := hp8
      subst es7
      have ghp8 := hp8
      refine lv_istore (lv' := [(5, .int (xJ x6)), (0, .ref (h0 + 3)), (1, .ref (h0 + 1)), (2, .int (xJ y)), (3, .int (xJ i3_5)), (4, .int (xJ i4_5))]) hx hb dX6_readRow_25 hl (by decide) rfl (fun ls hl => ?_)
      refine x_iload_n hx hb hl 4 rfl dX6_readRow_27 rfl ?_
      refine x_iload hx hb hl 0 rfl dX6_readRow_28 ?_
      refine x_iadd hx hb dX6_readRow_30 ?_
      refine x_bipush hx hb dX6_readRow_31 (by decide) ?_
      refine x_icmp_le (tgt := 47) hx hb (by omega) (by decide) dX6_readRow_33 (by decide) (fun c9 => ?_) (fun c9 => ?_)
      · skip
        refine x_iload hx hb hl 0 rfl dX6_readRow_47 ?_
        have J62 : ∀ (s_62 : xS) (H : Heap) (locs : List Loc) (ls : Array Slot), (xFr (fun k => k = 1 ∨ k = 5) s0 s_62) → (IC s_62) → (s_62 1 1 = s0 1 1) → xW D g h0 s H locs s_62 → lv_has ls 8 [(0, .ref (h0 + 3)), (1, .ref (h0 + 1)), (2, .int (xJ y)), (3, .int (xJ i3_5)), (4, .int (xJ i4_5)), (5, .int (xJ x6))] → W p l e { frames := 1, cells := 0, slots := 0, locals := 22 } s m args below meth c H locs 0 0 Q (F0 m 62 ls []) := by
          intro s_62 H locs ls hF_62 q62_0 q62_1 hW hl
          refine x_aload_n hx hb hl 1 rfl dX6_readRow_62 rfl ?_
          refine x_goi (x_runVN (As := []) hx hb hml hown hT hE hW hl.1 (Or.inl (by decide)) (so_1 h0 g _) rfl cf_X8_sign wq581 wq4 wn579 (c_X8_sign l D g T h0 s_62 hW.2.1 q62_0) ⟨rfl, rfl, ⟨by decide, by decide⟩, ⟨by decide, by decide⟩⟩ rfl rfl (Nat.le_of_ble_eq_true rfl) dX6_readRow_63) hW (fun x10 s11 H locs rx10 hp12 hW => ?_)
          obtain ⟨es11, hp12⟩ := hp12
          subst es11
          have ghp12 := hp12
          refine x_goi (x_runS (As := [.int (xJ x10)]) hx hb hml hown hT hE hW hl.1 cf_X6_kindOf wq591 wq590 (c_X6_kindOf l D g T h0 s_62 hW.2.1 x10 rx10) ⟨rfl, rfl, ⟨by decide, by decide⟩, ⟨by decide, by decide⟩⟩ rfl rfl (Nat.le_of_ble_eq_true rfl) dX6_readRow_66) hW (fun x13 s14 H locs rx13 hp15 hW => ?_)
          obtain ⟨es14, hp15⟩ := hp15
          subst es14
          have ghp15 := hp15
          refine lv_istore (lv' := [(6, .int (xJ x13)), (0, .ref (h0 + 3)), (1, .ref (h0 + 1)), (2, .int (xJ y)), (3, .int (xJ i3_5)), (4, .int (xJ i4_5)), (5, .int (xJ x6))]) hx hb dX6_readRow_69 hl (by decide) rfl (fun ls hl => ?_)
          refine x_iload hx hb hl 0 rfl dX6_readRow_71 ?_
          refine x_iconst hx hb dX6_readRow_73 ?_
          refine x_icmp_ne (tgt := 87) hx hb rx13 (by decide) dX6_readRow_74 (by decide) (fun c16 => ?_) (fun c16 => ?_)
          · skip
            refine x_aload_n hx hb hl 2 rfl dX6_readRow_87 rfl ?_
            refine lv_dup hx hb dX6_readRow_88 rfl ?_
            refine x_getN (j := 3) (v := .int (xJ (s_62 1 3))) hx hb hown hT hE hW cls_X8 (Or.inl (by decide)) (so_1 h0 g _) (by decide) rfl wn203 dX6_readRow_89 ?_
            refine x_rd hW (fun x17 ex17 rx17 => ?_)
            refine x_iconst hx hb dX6_readRow_92 ?_
            refine x_iadd hx hb dX6_readRow_93 ?_
            refine x_putN (j := 3) hx hb hown hT hE hW cls_X8 (by decide) (fun σ => so_1 h0 g σ) (by decide) (st_X8_3 h0 s_62 1 (x17 + 1)) (ln_X8_3 h0 _ _) wn203 rfl rfl rfl (by omega) dX6_readRow_94 (fun H locs s18 es18 hW => ?_)
            have q19 : IC s18 := by rw [es18]; exact IC_1 q62_0 (by omega)
            have q20 : s18 1 1 = s0 1 1 := (show s18 1 1 = s_62 1 1 from by rw [es18, xU_j _ _ (by decide)]).trans q62_1
            have hF21 := hF_62.put es18 (by omega)
            refine x_iload_n hx hb hl 4 rfl dX6_readRow_97 rfl ?_
            refine x_iload hx hb hl 6 rfl dX6_readRow_98 ?_
            refine x_iconst hx hb dX6_readRow_100 ?_
            refine x_mmax hx hb hml hl.1 hown hT wq593 wq594 wq180 wq595 ⟨by decide, Nat.le_of_ble_eq_true rfl, by decide, by decide⟩ rx6 (by decide) dX6_readRow_101 ?_
            refine x_nm (fun x22 ex22 => ?_)
            have fx22 : (x22 = x6 ∧ 1 ≤ x6) ∨ (x22 = 1 ∧ x6 ≤ 1) := by rw [ex22]; split <;> omega
            refine x_iadd hx hb dX6_readRow_104 ?_
            refine x_nm (fun x23 ex23 => ?_)
            refine lv_istore (lv' := [(7, .int (xJ x23)), (6, .int (xJ x13)), (0, .ref (h0 + 3)), (1, .ref (h0 + 1)), (2, .int (xJ y)), (3, .int (xJ i3_5)), (4, .int (xJ i4_5)), (5, .int (xJ x6))]) hx hb dX6_readRow_105 hl (by decide) rfl (fun ls hl => ?_)
            have L107 : ∀ (fu : Nat) (i3_107 : Int) (s_107 : xS) (H : Heap) (locs : List Loc) (ls : Array Slot), (xR i3_107) → (xFr (fun k => k = 1 ∨ k = 5) s0 s_107) → (IC s_107) → (s_107 1 1 = s0 1 1) → (0 ≤ i3_107) → (x23 + 1 - i3_107).toNat < fu → xW D g h0 s H locs s_107 → lv_has ls 8 [(0, .ref (h0 + 3)), (1, .ref (h0 + 1)), (2, .int (xJ y)), (3, .int (xJ i3_107)), (4, .int (xJ i4_5)), (6, .int (xJ x13)), (7, .int (xJ x23))] → W p l e { frames := 1, cells := 0, slots := 0, locals := 22 } s m args below meth c H locs 0 0 Q (F0 m 107 ls []) := by
              intro fu
              induction fu with
              | zero => intro i3_107 s_107 H locs ls ri3_107 hF_107 q107_0 q107_1 v107_0 hm; exact absurd hm (Nat.not_lt_zero _)
              | succ fu ih107 =>
                intro i3_107 s_107 H locs ls ri3_107 hF_107 q107_0 q107_1 v107_0 hm hW hl
                refine x_iload_n hx hb hl 3 rfl dX6_readRow_107 rfl ?_
                refine x_iload hx hb hl 6 rfl dX6_readRow_108 ?_
                refine x_icmp_ge (tgt := 138) hx hb ri3_107 (by omega) dX6_readRow_110 (by decide) (fun c24 => ?_) (fun c24 => ?_)
                · skip
                  refine x_iinc (lv' := [(4, .int (xJ (i4_5 + 1))), (0, .ref (h0 + 3)), (1, .ref (h0 + 1)), (2, .int (xJ y)), (3, .int (xJ i3_107)), (6, .int (xJ x13)), (7, .int (xJ x23))]) hx hb hl 4 rfl dX6_readRow_138 (by decide) rfl (fun ls hl => ?_)
                  refine lv_goto (tgt := 5) hx hb dX6_readRow_141 (by decide) ?_
                  exact ih5 i3_107 (i4_5 + 1) s_107 H locs ls ri3_107 (by omega) hF_107 q107_0 q107_1 (by omega) (by omega) (by omega) (by omega) hW (lv_sub hl [1, 2, 3, 4, 0] rfl)
                refine x_iload_n hx hb hl 3 rfl dX6_readRow_113 rfl ?_
                refine x_bipush hx hb dX6_readRow_114 (by decide) ?_
                refine x_icmp_ge (tgt := 138) hx hb ri3_107 (by decide) dX6_readRow_116 (by decide) (fun c25 => ?_) (fun c25 => ?_)
                · skip
                  refine x_iinc (lv' := [(4, .int (xJ (i4_5 + 1))), (0, .ref (h0 + 3)), (1, .ref (h0 + 1)), (2, .int (xJ y)), (3, .int (xJ i3_107)), (6, .int (xJ x13)), (7, .int (xJ x23))]) hx hb hl 4 rfl dX6_readRow_138 (by decide) rfl (fun ls hl => ?_)
                  refine lv_goto (tgt := 5) hx hb dX6_readRow_141 (by decide) ?_
                  exact ih5 i3_107 (i4_5 + 1) s_107 H locs ls ri3_107 (by omega) hF_107 q107_0 q107_1 (by omega) (by omega) (by omega) (by omega) hW (lv_sub hl [1, 2, 3, 4, 0] rfl)
                refine x_aload_n hx hb hl 0 rfl dX6_readRow_119 rfl ?_
                refine x_get (j := 1) (v := .ref (h0 + 5)) hx hb hown hT hE hW cls_X6 (Or.inl (by decide)) (so_3 h0 g _) (by decide) rfl wq227 dX6_readRow_120 ?_
                refine x_bipush hx hb dX6_readRow_123 (by decide) ?_
                refine x_iload_n hx hb hl 2 rfl dX6_readRow_125 rfl ?_
                refine x_imul hx hb dX6_readRow_126 ?_
                refine x_iload_n hx hb hl 3 rfl dX6_readRow_127 rfl ?_
                refine x_iadd hx hb dX6_readRow_128 ?_
                refine x_iload hx hb hl 5 rfl dX6_readRow_129 ?_
                refine x_iast hx hb hE hW (by decide) (fun σ => sa_5 h0 g σ) (by omega) (by decide) rx13 dX6_readRow_131 (fun H locs s26 es26 hW => ?_)
                have q27 : IC s26 := by rw [es26]; exact IC_o (by decide) q107_0
                have q28 : s26 1 1 = s0 1 1 := (show s26 1 1 = s_107 1 1 from by rw [es26, xU_k _ _ _ (by omega)]).trans q107_1
                have hF29 := hF_107.put es26 (by omega)
                refine x_iinc (lv' := [(3, .int (xJ (i3_107 + 1))), (0, .ref (h0 + 3)), (1, .ref (h0 + 1)), (2, .int (xJ y)), (4, .int (xJ i4_5)), (6, .int (xJ x13)), (7, .int (xJ x23))]) hx hb hl 3 rfl dX6_readRow_132 (by decide) rfl (fun ls hl => ?_)
                refine lv_goto (tgt := 107) hx hb dX6_readRow_135 (by decide) ?_
                exact ih107 (i3_107 + 1) s26 H locs ls (by omega) hF29 q27 q28 (by omega) (by omega) hW (lv_sub hl [1, 2, 3, 0, 4, 5, 6] rfl)
            exact L107 ((x23 + 1 - i3_5 : Int).toNat + 1) i3_5 s18 H locs ls ri3_5 hF21 q19 q20 (by omega) (Nat.lt_succ_self _) hW (lv_sub hl [2, 3, 4, 5, 6, 1, 0] rfl)
          refine x_aload_n hx hb hl 2 rfl dX6_readRow_77 rfl ?_
          refine x_iconst hx hb dX6_readRow_78 ?_
          refine x_aload_n hx hb hl 2 rfl dX6_readRow_79 rfl ?_
          refine x_getN (j := 3) (v := .int (xJ (s_62 1 3))) hx hb hown hT hE hW cls_X8 (Or.inl (by decide)) (so_1 h0 g _) (by decide) rfl wn203 dX6_readRow_80 ?_
          refine x_rd hW (fun x30 ex30 rx30 => ?_)
          refine x_goi (x_runVN (As := [.int (xJ 1), .int (xJ x30)]) hx hb hml hown hT hE hW hl.1 (Or.inl (by decide)) (so_1 h0 g _) rfl cf_X8_fails wq588 wq5 wn586 (c_X8_fails l D g T h0 s_62 hW.2.1 1 (by decide) x30 rx30 q62_0) ⟨rfl, rfl, ⟨by decide, by decide⟩, ⟨by decide, by decide⟩⟩ rfl rfl (Nat.le_of_ble_eq_true rfl) dX6_readRow_83) hW (fun x31 s32 H locs rx31 hp33 hW => ?_)
          obtain ⟨fs32, hp33⟩ := hp33
          have hF34 := hF_62.call fs32 (fun k h => by omega)
          have ghp33 := hp33.2
          rw [eQ]
          exact x_zret hx hb hr hlk hW (by omega) ⟨hF34, ⟨hp33.1.1, (hp33.1.2.1.trans q62_1), trivial⟩, by omega⟩ dX6_readRow_86
        refine x_if_le (tgt := 62) hx hb rx6 dX6_readRow_49 (by decide) (fun c35 => ?_) (fun c35 => ?_)
        · skip
          exact J62 s_5 H locs ls hF_5 q5_0 q5_1 hW (lv_sub hl [1, 2, 3, 4, 5, 0] rfl)
        refine x_aload_n hx hb hl 2 rfl dX6_readRow_52 rfl ?_
        refine lv_dup hx hb dX6_readRow_53 rfl ?_
        refine x_getN (j := 3) (v := .int (xJ (s_5 1 3))) hx hb hown hT hE hW cls_X8 (Or.inl (by decide)) (so_1 h0 g _) (by decide) rfl wn203 dX6_readRow_54 ?_
        refine x_rd hW (fun x36 ex36 rx36 => ?_)
        refine x_iconst hx hb dX6_readRow_57 ?_
        refine x_iadd hx hb dX6_readRow_58 ?_
        refine x_putN (j := 3) hx hb hown hT hE hW cls_X8 (by decide) (fun σ => so_1 h0 g σ) (by decide) (st_X8_3 h0 s_5 1 (x36 + 1)) (ln_X8_3 h0 _ _) wn203 rfl rfl rfl (by omega) dX6_readRow_59 (fun H locs s37 es37 hW => ?_)
        have q38 : IC s37 := by rw [es37]; exact IC_1 q5_0 (by omega)
        have q39 : s37 1 1 = s0 1 1 := (show s37 1 1 = s_5 1 1 from by rw [es37, xU_j _ _ (by decide)]).trans q5_1
        have hF40 := hF_5.put es37 (by omega)
        exact J62 s37 H locs ls hF40 q38 q39 hW (lv_sub hl [1, 2, 3, 4, 5, 0] rfl)
      refine x_aload_n hx hb hl 2 rfl dX6_readRow_36 rfl ?_
      refine x_bipush hx hb dX6_readRow_37 (by decide) ?_
      refine x_aload_n hx hb hl 2 rfl dX6_readRow_39 rfl ?_
      refine x_getN (j := 3) (v := .int (xJ (s_5 1 3))) hx hb hown hT hE hW cls_X8 (Or.inl (by decide)) (so_1 h0 g _) (by decide) rfl wn203 dX6_readRow_40 ?_
      refine x_rd hW (fun x41 ex41 rx41 => ?_)
      refine x_goi (x_runVN (As := [.int (xJ 6), .int (xJ x41)]) hx hb hml hown hT hE hW hl.1 (Or.inl (by decide)) (so_1 h0 g _) rfl cf_X8_fails wq588 wq5 wn586 (c_X8_fails l D g T h0 s_5 hW.2.1 6 (by decide) x41 rx41 q5_0) ⟨rfl, rfl, ⟨by decide, by decide⟩, ⟨by decide, by decide⟩⟩ rfl rfl (Nat.le_of_ble_eq_true rfl) dX6_readRow_43) hW (fun x42 s43 H locs rx42 hp44 hW => ?_)
      obtain ⟨fs43, hp44⟩ := hp44
      have hF45 := hF_5.call fs43 (fun k h => by omega)
      have ghp44 := hp44.2
      rw [eQ]
      exact x_zret hx hb hr hlk hW (by omega) ⟨hF45, ⟨hp44.1.1, (hp44.1.2.1.trans q5_1), trivial⟩, by omega⟩ dX6_readRow_46
  exact L5 ((10 + 1 - 0 : Int).toNat + 1) 0 0 s0 H locs ls (by decide) (by decide) hF p0 k1_1 (by omega) (by omega) (by omega) (Nat.lt_succ_self _) hW (lv_sub hl [2, 3, 4, 1, 0] rfl)
set_option maxHeartbeats 4000000 in
set_option maxRecDepth 100000 in
theorem c_X6_readFrom (l : Launch) (D : va_G) (g : xG) (T : Nat × Nat × Nat) (h0 : Nat) (s0 : xS) (hσ : xRR s0) (p0 : IC s0) : Met l yX6_readFrom (xws yX6_readFrom cX6_readFrom 3 (some .boolean)) { frames := 2, cells := 0, slots := 0, locals := 49 } (xP [.ref (h0 + 3), .ref (h0 + 1)] D g T h0 s0) (xQi D g h0 (fun r τ => xFr (fun k => k = 1 ∨ k = 107 ∨ k = 4 ∨ k = 5) s0 τ ∧ (((IC τ) ∧ (τ 1 1 = s0 1 1) ∧ True) ∧ (r = 0 ∨ r = 1)))) 0 0 (xA h0) := by
  refine x_met hσ (by decide) (Nat.le_of_ble_eq_true rfl) ?_
  intro p e s m args below meth c hx hb hr hml hown hT hlk hnm hE hW ls hl
  have hl : lv_has ls 3 [(0, .ref (h0 + 3)), (1, .ref (h0 + 1))] := hl
  obtain ⟨Q, eQ⟩ : ∃ Q, Q = MQ below (xQi D g h0 (fun r τ => xFr (fun k => k = 1 ∨ k = 107 ∨ k = 4 ∨ k = 5) s0 τ ∧ (((IC τ) ∧ (τ 1 1 = s0 1 1) ∧ True) ∧ (r = 0 ∨ r = 1)))) args s 0 0 (xA h0) := ⟨_, rfl⟩
  rw [← eQ]
  generalize hHe : ([] : List Loc) = locs at hW ⊢
  obtain ⟨H, eH⟩ : ∃ H, H = s.heap := ⟨_, rfl⟩
  rw [← eH] at hW ⊢
  have hF : xFr (fun k => k = 1 ∨ k = 107 ∨ k = 4 ∨ k = 5) s0 s0 := xFr.rf
  have k1_1 : s0 1 1 = s0 1 1 := rfl
  refine x_iconst hx hb dX6_readFrom_0 ?_
  refine lv_istore_n (lv' := [(2, .int (xJ 0)), (0, .ref (h0 + 3)), (1, .ref (h0 + 1))]) hx hb dX6_readFrom_1 rfl hl (by decide) rfl (fun ls hl => ?_)
  have L2 : ∀ (fu : Nat) (i2_2 : Int) (s_2 : xS) (H : Heap) (locs : List Loc) (ls : Array Slot), (xR i2_2) → (xFr (fun k => k = 1 ∨ k = 107 ∨ k = 4 ∨ k = 5) s0 s_2) → (IC s_2) → (s_2 1 1 = s0 1 1) → (0 ≤ i2_2) → (i2_2 ≤ 10) → (10 + 1 - i2_2).toNat < fu → xW D g h0 s H locs s_2 → lv_has ls 3 [(0, .ref (h0 + 3)), (1, .ref (h0 + 1)), (2, .int (xJ i2_2))] → W p l e { frames := 2, cells := 0, slots := 0, locals := 49 } s m args below meth c H locs 0 0 Q (F0 m 2 ls []) := by
    intro fu
    induction fu with
    | zero => intro i2_2 s_2 H locs ls ri2_2 hF_2 q2_0 q2_1 v2_0 v2_1 hm; exact absurd hm (Nat.not_lt_zero _)
    | succ fu ih2 =>
      intro i2_2 s_2 H locs ls ri2_2 hF_2 q2_0 q2_1 v2_0 v2_1 hm hW hl
      refine x_iload_n hx hb hl 2 rfl dX6_readFrom_2 rfl ?_
      refine x_bipush hx hb dX6_readFrom_3 (by decide) ?_
      refine x_icmp_ge (tgt := 78) hx hb ri2_2 (by decide) dX6_readFrom_5 (by decide) (fun c1 => ?_) (fun c1 => ?_)
      · skip
        refine x_aload_n hx hb hl 0 rfl dX6_readFrom_78 rfl ?_
        refine x_get (j := 1) (v := .ref (h0 + 5)) hx hb hown hT hE hW cls_X6 (Or.inl (by decide)) (so_3 h0 g _) (by decide) rfl wq227 dX6_readFrom_79 ?_
        refine x_iconst hx hb dX6_readFrom_82 ?_
        refine x_aload_n hx hb hl 0 rfl dX6_readFrom_83 rfl ?_
        refine x_get (j := 0) (v := .ref (h0 + 4)) hx hb hown hT hE hW cls_X6 (Or.inl (by decide)) (so_3 h0 g _) (by decide) rfl wq226 dX6_readFrom_84 ?_
        refine x_iconst hx hb dX6_readFrom_87 ?_
        refine x_bipush hx hb dX6_readFrom_88 (by decide) ?_
        refine x_copyi (ns := 100) (nd := 100) hx hb hml hl.1 hown hT hE hW wq602 wq604 wq603 wq181 (Or.inl (by decide)) (sa_5 h0 g _) (by decide) (fun σ => sa_4 h0 g σ) (by omega) ⟨by decide, Nat.le_of_ble_eq_true rfl⟩ dX6_readFrom_90 (fun H locs s2 es2 hW => ?_)
        have q3 : IC s2 := IC_f (fun k hk => by rw [es2]; exact xC_k _ _ _ (fun q => hk (q ▸ (by decide)))) q2_0
        have q4 : s2 1 1 = s0 1 1 := (show s2 1 1 = s_2 1 1 from by rw [es2, xC_k _ _ _ (by omega)]).trans q2_1
        have hF5 := hF_2.cpy es2 (by omega)
        refine x_iconst hx hb dX6_readFrom_93 ?_
        refine lv_istore_n (lv' := [(2, .int (xJ 0)), (0, .ref (h0 + 3)), (1, .ref (h0 + 1))]) hx hb dX6_readFrom_94 rfl hl (by decide) rfl (fun ls hl => ?_)
        have L95 : ∀ (fu : Nat) (i2_95 : Int) (s_95 : xS) (H : Heap) (locs : List Loc) (ls : Array Slot), (xR i2_95) → (xFr (fun k => k = 1 ∨ k = 107 ∨ k = 4 ∨ k = 5) s0 s_95) → (IC s_95) → (s_95 1 1 = s0 1 1) → (0 ≤ i2_95) → (100 - i2_95).toNat < fu → xW D g h0 s H locs s_95 → lv_has ls 3 [(0, .ref (h0 + 3)), (2, .int (xJ i2_95))] → W p l e { frames := 2, cells := 0, slots := 0, locals := 49 } s m args below meth c H locs 0 0 Q (F0 m 95 ls []) := by
          intro fu
          induction fu with
          | zero => intro i2_95 s_95 H locs ls ri2_95 hF_95 q95_0 q95_1 v95_0 hm; exact absurd hm (Nat.not_lt_zero _)
          | succ fu ih95 =>
            intro i2_95 s_95 H locs ls ri2_95 hF_95 q95_0 q95_1 v95_0 hm hW hl
            refine x_iload_n hx hb hl 1 rfl dX6_readFrom_95 rfl ?_
            refine x_aload_n hx hb hl 0 rfl dX6_readFrom_96 rfl ?_
            refine x_get (j := 3) (v := .ref (h0 + 107)) hx hb hown hT hE hW cls_X6 (Or.inl (by decide)) (so_3 h0 g _) (by decide) rfl wq229 dX6_readFrom_97 ?_
            refine x_alen (n := 100) (t0 := 1) hx hb hE hW (Or.inl (by decide)) (sa_107 h0 g _) rfl rfl dX6_readFrom_100 ?_
            refine x_icmp_ge (tgt := 117) hx hb ri2_95 (by decide) dX6_readFrom_101 (by decide) (fun c6 => ?_) (fun c6 => ?_)
            · skip
              refine x_iconst hx hb dX6_readFrom_117 ?_
              rw [eQ]
              exact x_zret hx hb hr hlk hW (by omega) ⟨hF_95, ⟨q95_0, q95_1, trivial⟩, by omega⟩ dX6_readFrom_118
            refine x_aload_n hx hb hl 0 rfl dX6_readFrom_104 rfl ?_
            refine x_get (j := 3) (v := .ref (h0 + 107)) hx hb hown hT hE hW cls_X6 (Or.inl (by decide)) (so_3 h0 g _) (by decide) rfl wq229 dX6_readFrom_105 ?_
            refine x_iload_n hx hb hl 1 rfl dX6_readFrom_108 rfl ?_
            refine x_iconst hx hb dX6_readFrom_109 ?_
            refine x_zast hx hb hE hW (by decide) (fun σ => sa_107 h0 g σ) (by omega) (by decide) (by omega) dX6_readFrom_110 (fun H locs s7 es7 hW => ?_)
            have q8 : IC s7 := by rw [es7]; exact IC_o (by decide) q95_0
            have q9 : s7 1 1 = s0 1 1 := (show s7 1 1 = s_95 1 1 from by rw [es7, xU_k _ _ _ (by omega)]).trans q95_1
            have hF10 := hF_95.put es7 (by omega)
            refine x_iinc (lv' := [(2, .int (xJ (i2_95 + 1))), (0, .ref (h0 + 3))]) hx hb hl 1 rfl dX6_readFrom_111 (by decide) rfl (fun ls hl => ?_)
            refine lv_goto (tgt := 95) hx hb dX6_readFrom_114 (by decide) ?_
            exact ih95 (i2_95 + 1) s7 H locs ls (by omega) hF10 q8 q9 (by omega) (by omega) hW (lv_sub hl [1, 0] rfl)
        exact L95 ((100 - 0 : Int).toNat + 1) 0 s2 H locs ls (by decide) hF5 q3 q4 (by omega) (Nat.lt_succ_self _) hW (lv_sub hl [1, 0] rfl)
      refine x_aload_n hx hb hl 0 rfl dX6_readFrom_8 rfl ?_
      refine x_aload_n hx hb hl 1 rfl dX6_readFrom_9 rfl ?_
      refine x_iload_n hx hb hl 2 rfl dX6_readFrom_10 rfl ?_
      refine x_goi (x_runV (As := [.ref (h0 + 1), .int (xJ i2_2)]) hx hb hml hown hT hE hW hl.1 (Or.inl (by decide)) (so_3 h0 g _) rfl cf_X6_readRow wq577 wq3 wq575 (c_X6_readRow l D g T h0 s_2 hW.2.1 i2_2 ri2_2 (by omega) q2_0) ⟨rfl, rfl, ⟨by decide, by decide⟩, ⟨by decide, by decide⟩⟩ rfl rfl (Nat.le_of_ble_eq_true rfl) dX6_readFrom_11) hW (fun x11 s12 H locs rx11 hp13 hW => ?_)
      obtain ⟨fs12, hp13⟩ := hp13
      have hF14 := hF_2.call fs12 (fun k h => by omega)
      have ghp13 := hp13.2
      refine x_if_ne (tgt := 19) hx hb rx11 dX6_readFrom_14 (by decide) (fun c15 => ?_) (fun c15 => ?_)
      · skip
        refine x_aload_n hx hb hl 1 rfl dX6_readFrom_19 rfl ?_
        refine x_goi (x_runVN (As := []) hx hb hml hown hT hE hW hl.1 (Or.inl (by decide)) (so_1 h0 g _) rfl cf_X8_sign wq581 wq4 wn579 (c_X8_sign l D g T h0 s12 hW.2.1 hp13.1.1) ⟨rfl, rfl, ⟨by decide, by decide⟩, ⟨by decide, by decide⟩⟩ rfl rfl (Nat.le_of_ble_eq_true rfl) dX6_readFrom_20) hW (fun x16 s17 H locs rx16 hp18 hW => ?_)
        obtain ⟨es17, hp18⟩ := hp18
        subst es17
        have ghp18 := hp18
        refine x_goi (x_runS (As := [.int (xJ x16)]) hx hb hml hown hT hE hW hl.1 cf_X6_kindOf wq591 wq590 (c_X6_kindOf l D g T h0 s12 hW.2.1 x16 rx16) ⟨rfl, rfl, ⟨by decide, by decide⟩, ⟨by decide, by decide⟩⟩ rfl rfl (Nat.le_of_ble_eq_true rfl) dX6_readFrom_23) hW (fun x19 s20 H locs rx19 hp21 hW => ?_)
        obtain ⟨es20, hp21⟩ := hp21
        subst es20
        have ghp21 := hp21
        refine x_iconst hx hb dX6_readFrom_26 ?_
        refine x_icmp_ne (tgt := 40) hx hb rx19 (by decide) dX6_readFrom_27 (by decide) (fun c22 => ?_) (fun c22 => ?_)
        · skip
          refine x_aload_n hx hb hl 1 rfl dX6_readFrom_40 rfl ?_
          refine x_bipush hx hb dX6_readFrom_41 (by decide) ?_
          refine x_aload_n hx hb hl 1 rfl dX6_readFrom_43 rfl ?_
          refine x_getN (j := 3) (v := .int (xJ (s12 1 3))) hx hb hown hT hE hW cls_X8 (Or.inl (by decide)) (so_1 h0 g _) (by decide) rfl wn203 dX6_readFrom_44 ?_
          refine x_rd hW (fun x23 ex23 rx23 => ?_)
          refine x_goi (x_runVN (As := [.int (xJ 6), .int (xJ x23)]) hx hb hml hown hT hE hW hl.1 (Or.inl (by decide)) (so_1 h0 g _) rfl cf_X8_fails wq588 wq5 wn586 (c_X8_fails l D g T h0 s12 hW.2.1 6 (by decide) x23 rx23 hp13.1.1) ⟨rfl, rfl, ⟨by decide, by decide⟩, ⟨by decide, by decide⟩⟩ rfl rfl (Nat.le_of_ble_eq_true rfl) dX6_readFrom_47) hW (fun x24 s25 H locs rx24 hp26 hW => ?_)
          obtain ⟨fs25, hp26⟩ := hp26
          have hF27 := hF14.call fs25 (fun k h => by omega)
          have ghp26 := hp26.2
          rw [eQ]
          exact x_zret hx hb hr hlk hW (by omega) ⟨hF27, ⟨hp26.1.1, (hp26.1.2.1.trans (hp13.1.2.1.trans q2_1)), trivial⟩, by omega⟩ dX6_readFrom_50
        refine x_aload_n hx hb hl 1 rfl dX6_readFrom_30 rfl ?_
        refine x_goi (x_runVN (As := []) hx hb hml hown hT hE hW hl.1 (Or.inl (by decide)) (so_1 h0 g _) rfl cf_X8_sign wq581 wq4 wn579 (c_X8_sign l D g T h0 s12 hW.2.1 hp13.1.1) ⟨rfl, rfl, ⟨by decide, by decide⟩, ⟨by decide, by decide⟩⟩ rfl rfl (Nat.le_of_ble_eq_true rfl) dX6_readFrom_31) hW (fun x28 s29 H locs rx28 hp30 hW => ?_)
        obtain ⟨es29, hp30⟩ := hp30
        subst es29
        have ghp30 := hp30
        refine x_goi (x_runS (As := [.int (xJ x28)]) hx hb hml hown hT hE hW hl.1 cf_X6_timesOf wq584 wq583 (c_X6_timesOf l D g T h0 s12 hW.2.1 x28 rx28) ⟨rfl, rfl, ⟨by decide, by decide⟩, ⟨by decide, by decide⟩⟩ rfl rfl (Nat.le_of_ble_eq_true rfl) dX6_readFrom_34) hW (fun x31 s32 H locs rx31 hp33 hW => ?_)
        obtain ⟨es32, hp33⟩ := hp33
        subst es32
        have ghp33 := hp33
        refine x_if_le (tgt := 51) hx hb rx31 dX6_readFrom_37 (by decide) (fun c34 => ?_) (fun c34 => ?_)
        · skip
          refine x_aload_n hx hb hl 1 rfl dX6_readFrom_51 rfl ?_
          refine x_iload_n hx hb hl 2 rfl dX6_readFrom_52 rfl ?_
          refine x_bipush hx hb dX6_readFrom_53 (by decide) ?_
          refine x_icmp_ge (tgt := 63) hx hb ri2_2 (by decide) dX6_readFrom_55 (by decide) (fun c35 => ?_) (fun c35 => ?_)
          · skip
            refine x_iconst hx hb dX6_readFrom_63 ?_
            refine x_goi (x_runVN (As := [.int (xJ (-1))]) hx hb hml hown hT hE hW hl.1 (Or.inl (by decide)) (so_1 h0 g _) rfl cf_X8_passes wq598 wq6 wn596 (c_X8_passes l D g T h0 s12 hW.2.1 (-1) (by decide) hp13.1.1) ⟨rfl, rfl, ⟨by decide, by decide⟩, ⟨by decide, by decide⟩⟩ rfl rfl (Nat.le_of_ble_eq_true rfl) dX6_readFrom_64) hW (fun x36 s37 H locs rx36 hp38 hW => ?_)
            obtain ⟨fs37, hp38⟩ := hp38
            have hF39 := hF14.call fs37 (fun k h => by omega)
            have ghp38 := hp38.2
            refine x_if_ne (tgt := 72) hx hb rx36 dX6_readFrom_67 (by decide) (fun c40 => ?_) (fun c40 => ?_)
            · skip
              refine x_iinc (lv' := [(2, .int (xJ (i2_2 + 1))), (0, .ref (h0 + 3)), (1, .ref (h0 + 1))]) hx hb hl 2 rfl dX6_readFrom_72 (by decide) rfl (fun ls hl => ?_)
              refine lv_goto (tgt := 2) hx hb dX6_readFrom_75 (by decide) ?_
              exact ih2 (i2_2 + 1) s37 H locs ls (by omega) hF39 hp38.1.1 (hp38.1.2.1.trans (hp13.1.2.1.trans q2_1)) (by omega) (by omega) (by omega) hW (lv_sub hl [1, 2, 0] rfl)
            refine x_iconst hx hb dX6_readFrom_70 ?_
            rw [eQ]
            exact x_zret hx hb hr hlk hW (by omega) ⟨hF39, ⟨hp38.1.1, (hp38.1.2.1.trans (hp13.1.2.1.trans q2_1)), trivial⟩, by omega⟩ dX6_readFrom_71
          refine x_bipush hx hb dX6_readFrom_58 (by decide) ?_
          refine lv_goto (tgt := 64) hx hb dX6_readFrom_60 (by decide) ?_
          refine x_goi (x_runVN (As := [.int (xJ 47)]) hx hb hml hown hT hE hW hl.1 (Or.inl (by decide)) (so_1 h0 g _) rfl cf_X8_passes wq598 wq6 wn596 (c_X8_passes l D g T h0 s12 hW.2.1 47 (by decide) hp13.1.1) ⟨rfl, rfl, ⟨by decide, by decide⟩, ⟨by decide, by decide⟩⟩ rfl rfl (Nat.le_of_ble_eq_true rfl) dX6_readFrom_64) hW (fun x41 s42 H locs rx41 hp43 hW => ?_)
          obtain ⟨fs42, hp43⟩ := hp43
          have hF44 := hF14.call fs42 (fun k h => by omega)
          have ghp43 := hp43.2
          refine x_if_ne (tgt := 72) hx hb rx41 dX6_readFrom_67 (by decide) (fun c45 => ?_) (fun c45 => ?_)
          · skip
            refine x_iinc (lv' := [(2, .int (xJ (i2_2 + 1))), (0, .ref (h0 + 3)), (1, .ref (h0 + 1))]) hx hb hl 2 rfl dX6_readFrom_72 (by decide) rfl (fun ls hl => ?_)
            refine lv_goto (tgt := 2) hx hb dX6_readFrom_75 (by decide) ?_
            exact ih2 (i2_2 + 1) s42 H locs ls (by omega) hF44 hp43.1.1 (hp43.1.2.1.trans (hp13.1.2.1.trans q2_1)) (by omega) (by omega) (by omega) hW (lv_sub hl [1, 2, 0] rfl)
          refine x_iconst hx hb dX6_readFrom_70 ?_
          rw [eQ]
          exact x_zret hx hb hr hlk hW (by omega) ⟨hF44, ⟨hp43.1.1, (hp43.1.2.1.trans (hp13.1.2.1.trans q2_1)), trivial⟩, by omega⟩ dX6_readFrom_71
        refine x_aload_n hx hb hl 1 rfl dX6_readFrom_40 rfl ?_
        refine x_bipush hx hb dX6_readFrom_41 (by decide) ?_
        refine x_aload_n hx hb hl 1 rfl dX6_readFrom_43 rfl ?_
        refine x_getN (j := 3) (v := .int (xJ (s12 1 3))) hx hb hown hT hE hW cls_X8 (Or.inl (by decide)) (so_1 h0 g _) (by decide) rfl wn203 dX6_readFrom_44 ?_
        refine x_rd hW (fun x46 ex46 rx46 => ?_)
        refine x_goi (x_runVN (As := [.int (xJ 6), .int (xJ x46)]) hx hb hml hown hT hE hW hl.1 (Or.inl (by decide)) (so_1 h0 g _) rfl cf_X8_fails wq588 wq5 wn586 (c_X8_fails l D g T h0 s12 hW.2.1 6 (by decide) x46 rx46 hp13.1.1) ⟨rfl, rfl, ⟨by decide, by decide⟩, ⟨by decide, by decide⟩⟩ rfl rfl (Nat.le_of_ble_eq_true rfl) dX6_readFrom_47) hW (fun x47 s48 H locs rx47 hp49 hW => ?_)
        obtain ⟨fs48, hp49⟩ := hp49
        have hF50 := hF14.call fs48 (fun k h => by omega)
        have ghp49 := hp49.2
        rw [eQ]
        exact x_zret hx hb hr hlk hW (by omega) ⟨hF50, ⟨hp49.1.1, (hp49.1.2.1.trans (hp13.1.2.1.trans q2_1)), trivial⟩, by omega⟩ dX6_readFrom_50
      refine x_iconst hx hb dX6_readFrom_17 ?_
      rw [eQ]
      exact x_zret hx hb hr hlk hW (by omega) ⟨hF14, ⟨hp13.1.1, (hp13.1.2.1.trans q2_1), trivial⟩, by omega⟩ dX6_readFrom_18
  exact L2 ((10 + 1 - 0 : Int).toNat + 1) 0 s0 H locs ls (by decide) hF p0 k1_1 (by omega) (by omega) (Nat.lt_succ_self _) hW (lv_sub hl [1, 2, 0] rfl)
