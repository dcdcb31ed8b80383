set_option maxHeartbeats 4000000 in
set_option maxRecDepth 100000 in
theorem c_X9_stepOfW (l : Launch) (D : va_G) (g : xG) (T : Nat × Nat × Nat) (h0 : Nat) (s0 : xS) (hσ : xRR s0) (x : Int) (rx : xR x) : Met l yX9_stepOf (xws yX9_stepOf cX9_stepOf 1 (some .int)) { frames := 0, cells := 0, slots := 0, locals := 0 } (xP [.int (xJ x)] D g T h0 s0) (xQi D g h0 (fun r τ => s0 = τ ∧ ((x = 110 ∧ r = 0) ∨ (x = 101 ∧ r = 1) ∨ (x = 115 ∧ r = 2) ∨ (x = 119 ∧ r = 3) ∨ (x = 46 ∧ r = 4) ∨ (x ≠ 110 ∧ x ≠ 101 ∧ x ≠ 115 ∧ x ≠ 119 ∧ x ≠ 46 ∧ r = -1)))) 0 0 (xA h0) := by
  refine x_met hσ (by decide) (Nat.le_of_ble_eq_true rfl) ?_
  intro p e s m args below meth c hx hb hr hml hown hT hlk hnm hE hW ls hl
  have hl : lv_has ls 1 [(0, .int (xJ x))] := hl
  obtain ⟨Q, eQ⟩ : ∃ Q, Q = MQ below (xQi D g h0 (fun r τ => s0 = τ ∧ ((x = 110 ∧ r = 0) ∨ (x = 101 ∧ r = 1) ∨ (x = 115 ∧ r = 2) ∨ (x = 119 ∧ r = 3) ∨ (x = 46 ∧ r = 4) ∨ (x ≠ 110 ∧ x ≠ 101 ∧ x ≠ 115 ∧ x ≠ 119 ∧ x ≠ 46 ∧ r = -1)))) args s 0 0 (xA h0) := ⟨_, rfl⟩
  rw [← eQ]
  generalize hHe : ([] : List Loc) = locs at hW ⊢
  obtain ⟨H, eH⟩ : ∃ H, H = s.heap := ⟨_, rfl⟩
  rw [← eH] at hW ⊢
  refine x_iload_n hx hb hl 0 rfl dX9_stepOf_0 rfl ?_
  rcases (show (x ≠ 46 ∧ x ≠ 101 ∧ x ≠ 110 ∧ x ≠ 115 ∧ x ≠ 119) ∨ x = 46 ∨ x = 101 ∨ x = 110 ∨ x = 115 ∨ x = 119 from by omega) with c1 | c1 | c1 | c1 | c1 | c1
  · refine x_look (tgt := 62) (off := 61) hx hb rx dX9_stepOf_1 rfl (xlk_n (by simp; omega)) (by decide) ?_
    refine x_iconst hx hb dX9_stepOf_62 ?_
    rw [eQ]
    exact x_iret hx hb hr hlk hW (by decide) ⟨rfl, by omega⟩ dX9_stepOf_63
  · refine x_look (tgt := 60) (off := 59) hx hb rx dX9_stepOf_1 rfl (by rw [c1]; rfl) (by decide) ?_
    refine x_iconst hx hb dX9_stepOf_60 ?_
    rw [eQ]
    exact x_iret hx hb hr hlk hW (by decide) ⟨rfl, by omega⟩ dX9_stepOf_61
  · refine x_look (tgt := 54) (off := 53) hx hb rx dX9_stepOf_1 rfl (by rw [c1]; rfl) (by decide) ?_
    refine x_iconst hx hb dX9_stepOf_54 ?_
    rw [eQ]
    exact x_iret hx hb hr hlk hW (by decide) ⟨rfl, by omega⟩ dX9_stepOf_55
  · refine x_look (tgt := 52) (off := 51) hx hb rx dX9_stepOf_1 rfl (by rw [c1]; rfl) (by decide) ?_
    refine x_iconst hx hb dX9_stepOf_52 ?_
    rw [eQ]
    exact x_iret hx hb hr hlk hW (by decide) ⟨rfl, by omega⟩ dX9_stepOf_53
  · refine x_look (tgt := 56) (off := 55) hx hb rx dX9_stepOf_1 rfl (by rw [c1]; rfl) (by decide) ?_
    refine x_iconst hx hb dX9_stepOf_56 ?_
    rw [eQ]
    exact x_iret hx hb hr hlk hW (by decide) ⟨rfl, by omega⟩ dX9_stepOf_57
  · refine x_look (tgt := 58) (off := 57) hx hb rx dX9_stepOf_1 rfl (by rw [c1]; rfl) (by decide) ?_
    refine x_iconst hx hb dX9_stepOf_58 ?_
    rw [eQ]
    exact x_iret hx hb hr hlk hW (by decide) ⟨rfl, by omega⟩ dX9_stepOf_59
set_option maxHeartbeats 4000000 in
set_option maxRecDepth 100000 in
theorem c_X9_repeatW (l : Launch) (D : va_G) (g : xG) (T : Nat × Nat × Nat) (h0 : Nat) (s0 : xS) (hσ : xRR s0) (a : Int) (ra : xR a) (b : Int) (rb : xR b) (ha0 : 0 ≤ a ∧ a < s0 126 2 ∧ s0 126 2 ≤ 60) (hb0 : 0 ≤ b ∧ b ≤ 8) (p0 : IC s0) : Met l yX9_repeat (xws yX9_repeat cX9_repeat 5 (some .boolean)) { frames := 0, cells := 0, slots := 0, locals := 0 } (xP [.ref (h0 + 126), .int (xJ a), .int (xJ b)] D g T h0 s0) (xQi D g h0 (fun r τ => xFr (fun k => k = 126 ∨ k = 127) s0 τ ∧ (((IC τ) ∧ True) ∧ ((r = 1 ∧ s0 126 2 + b * (s0 126 2 - a) ≤ 60 ∧ τ 126 2 = s0 126 2 + b * (s0 126 2 - a) ∧ τ 127 = wrep (s0 127) a (s0 126 2) (b * (s0 126 2 - a))) ∨ (r = 0 ∧ 60 < s0 126 2 + b * (s0 126 2 - a) ∧ τ 126 2 = s0 126 2 ∧ τ 127 = s0 127))))) 0 0 (xA h0) := by
  refine x_met hσ (by decide) (Nat.le_of_ble_eq_true rfl) ?_
  intro p e s m args below meth c hx hb hr hml hown hT hlk hnm hE hW ls hl
  have hl : lv_has ls 5 [(0, .ref (h0 + 126)), (1, .int (xJ a)), (2, .int (xJ b))] := hl
  obtain ⟨Q, eQ⟩ : ∃ Q, Q = MQ below (xQi D g h0 (fun r τ => xFr (fun k => k = 126 ∨ k = 127) s0 τ ∧ (((IC τ) ∧ True) ∧ ((r = 1 ∧ s0 126 2 + b * (s0 126 2 - a) ≤ 60 ∧ τ 126 2 = s0 126 2 + b * (s0 126 2 - a) ∧ τ 127 = wrep (s0 127) a (s0 126 2) (b * (s0 126 2 - a))) ∨ (r = 0 ∧ 60 < s0 126 2 + b * (s0 126 2 - a) ∧ τ 126 2 = s0 126 2 ∧ τ 127 = s0 127))))) args s 0 0 (xA h0) := ⟨_, rfl⟩
  rw [← eQ]
  generalize hHe : ([] : List Loc) = locs at hW ⊢
  obtain ⟨H, eH⟩ : ∃ H, H = s.heap := ⟨_, rfl⟩
  rw [← eH] at hW ⊢
  have hF : xFr (fun k => k = 126 ∨ k = 127) s0 s0 := xFr.rf
  have k1_1 : s0 1 1 = s0 1 1 := rfl
  have k126_2 : s0 126 2 = s0 126 2 := rfl
  refine x_aload_n hx hb hl 0 rfl dX9_repeat_0 rfl ?_
  refine x_get (j := 2) (v := .int (xJ (s0 126 2))) hx hb hown hT hE hW cls_X9 (Or.inl (by decide)) (so_126 h0 g _) (by decide) rfl wq309 dX9_repeat_1 ?_
  refine x_rd hW (fun x1 ex1 rx1 => ?_)
  have bx1 : 0 ≤ x1 ∧ x1 ≤ 60 := by rw [ex1]; exact IC.y p0
  have fx1 : x1 = s0 126 2 := ex1.trans k126_2
  refine x_iload_n hx hb hl 1 rfl dX9_repeat_4 rfl ?_
  refine x_isub hx hb dX9_repeat_5 ?_
  refine x_nm (fun x2 ex2 => ?_)
  refine lv_istore_n (lv' := [(3, .int (xJ x2)), (0, .ref (h0 + 126)), (1, .int (xJ a)), (2, .int (xJ b))]) hx hb dX9_repeat_6 rfl hl (by decide) rfl (fun ls hl => ?_)
  have X6 : x2 = s0 126 2 - a := by omega
  refine x_aload_n hx hb hl 1 rfl dX9_repeat_7 rfl ?_
  refine x_get (j := 2) (v := .int (xJ (s0 126 2))) hx hb hown hT hE hW cls_X9 (Or.inl (by decide)) (so_126 h0 g _) (by decide) rfl wq309 dX9_repeat_8 ?_
  refine x_rd hW (fun x3 ex3 rx3 => ?_)
  have bx3 : 0 ≤ x3 ∧ x3 ≤ 60 := by rw [ex3]; exact IC.y p0
  have fx3 : x3 = s0 126 2 := ex3.trans k126_2
  refine x_iload_n hx hb hl 3 rfl dX9_repeat_11 rfl ?_
  refine x_iload_n hx hb hl 0 rfl dX9_repeat_12 rfl ?_
  refine x_imul hx hb dX9_repeat_13 ?_
  have mb := xmulb (by omega : -1 ≤ b ∧ b ≤ 9) (by omega : -60 ≤ x2 ∧ x2 ≤ 60)
  have mc := xmuls (b := x2) (by omega : 0 ≤ b ∧ b ≤ 9)
  have md : 0 ≤ b * x2 := Int.mul_nonneg hb0.1 (by omega)
  refine x_iadd hx hb dX9_repeat_14 ?_
  refine x_bipush hx hb dX9_repeat_15 (by decide) ?_
  refine x_icmp_le (tgt := 22) hx hb (by omega) (by decide) dX9_repeat_17 (by decide) (fun c4 => ?_) (fun c4 => ?_)
  · skip
    refine x_iconst hx hb dX9_repeat_22 ?_
    refine lv_istore (lv' := [(4, .int (xJ 0)), (3, .int (xJ x2)), (0, .ref (h0 + 126)), (1, .int (xJ a)), (2, .int (xJ b))]) hx hb dX9_repeat_23 hl (by decide) rfl (fun ls hl => ?_)
    have L25 : ∀ (fu : Nat) (i4_25 : Int) (s_25 : xS) (H : Heap) (locs : List Loc) (ls : Array Slot), (xR i4_25) → (xFr (fun k => k = 126 ∨ k = 127) s0 s_25) → (IC s_25) → (s_25 1 1 = s0 1 1) → (0 ≤ i4_25 ∧ i4_25 ≤ b * x2) → (s_25 126 2 = s0 126 2 + i4_25) → (s_25 127 = wrep (s0 127) a (s0 126 2) i4_25) → (b * x2 - i4_25).toNat < fu → xW D g h0 s H locs s_25 → lv_has ls 5 [(0, .ref (h0 + 126)), (1, .int (xJ a)), (2, .int (xJ b)), (3, .int (xJ x2)), (4, .int (xJ i4_25))] → W p l e { frames := 0, cells := 0, slots := 0, locals := 0 } s m args below meth c H locs 0 0 Q (F0 m 25 ls []) := by
      intro fu
      induction fu with
      | zero => intro i4_25 s_25 H locs ls ri4_25 hF_25 q25_0 q25_1 v25_0 v25_1 v25_2 hm; exact absurd hm (Nat.not_lt_zero _)
      | succ fu ih25 =>
        intro i4_25 s_25 H locs ls ri4_25 hF_25 q25_0 q25_1 v25_0 v25_1 v25_2 hm hW hl
        refine x_iload hx hb hl 4 rfl dX9_repeat_25 ?_
        refine x_iload_n hx hb hl 2 rfl dX9_repeat_27 rfl ?_
        refine x_iload_n hx hb hl 3 rfl dX9_repeat_28 rfl ?_
        refine x_imul hx hb dX9_repeat_29 ?_
        refine x_icmp_ge (tgt := 80) hx hb ri4_25 (by omega) dX9_repeat_30 (by decide) (fun c5 => ?_) (fun c5 => ?_)
        · skip
          refine x_iconst hx hb dX9_repeat_80 ?_
          rw [eQ]
          exact x_zret hx hb hr hlk hW (by omega) ⟨hF_25, ⟨q25_0, trivial⟩, Or.inl ⟨by omega, by rw [← X6]; omega, by rw [← X6]; omega, by rw [← X6]; exact v25_2.trans (wrep_c (by omega))⟩⟩ dX9_repeat_81
        refine x_iload_n hx hb hl 1 rfl dX9_repeat_33 rfl ?_
        refine x_if_lt (tgt := 80) hx hb ra dX9_repeat_34 (by decide) (fun c6 => False.elim (by omega)) (fun c6 => ?_)
        refine x_aload_n hx hb hl 0 rfl dX9_repeat_37 rfl ?_
        refine x_get (j := 2) (v := .int (xJ (s_25 126 2))) hx hb hown hT hE hW cls_X9 (Or.inl (by decide)) (so_126 h0 g _) (by decide) rfl wq309 dX9_repeat_38 ?_
        refine x_rd hW (fun x7 ex7 rx7 => ?_)
        have bx7 : 0 ≤ x7 ∧ x7 ≤ 60 := by rw [ex7]; exact IC.y q25_0
        have q8 : s_25 126 2 = x7 := ex7.symm
        refine x_bipush hx hb dX9_repeat_41 (by decide) ?_
        refine x_icmp_ge (tgt := 80) hx hb rx7 (by decide) dX9_repeat_43 (by decide) (fun c9 => False.elim (by omega)) (fun c9 => ?_)
        refine x_aload_n hx hb hl 0 rfl dX9_repeat_46 rfl ?_
        refine x_get (j := 1) (v := .ref (h0 + 127)) hx hb hown hT hE hW cls_X9 (Or.inl (by decide)) (so_126 h0 g _) (by decide) rfl wq308 dX9_repeat_47 ?_
        refine x_aload_n hx hb hl 0 rfl dX9_repeat_50 rfl ?_
        refine x_get (j := 2) (v := .int (xJ (s_25 126 2))) hx hb hown hT hE hW cls_X9 (Or.inl (by decide)) (so_126 h0 g _) (by decide) rfl wq309 dX9_repeat_51 ?_
        refine x_rd hW (fun x10 ex10 rx10 => ?_)
        have bx10 : 0 ≤ x10 ∧ x10 ≤ 60 := by rw [ex10]; exact IC.y q25_0
        have fx10 : x10 = x7 := ex10.trans q8
        refine x_aload_n hx hb hl 0 rfl dX9_repeat_54 rfl ?_
        refine x_get (j := 1) (v := .ref (h0 + 127)) hx hb hown hT hE hW cls_X9 (Or.inl (by decide)) (so_126 h0 g _) (by decide) rfl wq308 dX9_repeat_55 ?_
        refine x_iload_n hx hb hl 1 rfl dX9_repeat_58 rfl ?_
        refine x_iload hx hb hl 4 rfl dX9_repeat_59 ?_
        refine x_iadd hx hb dX9_repeat_61 ?_
        refine x_iald hx hb hE hW (Or.inl (by decide)) (sa_127 h0 g _) (by omega) (by decide) dX9_repeat_62 ?_
        refine x_rd hW (fun x11 ex11 rx11 => ?_)
        have R62 := ex11
        refine x_iast hx hb hE hW (by decide) (fun σ => sa_127 h0 g σ) (by omega) (by decide) rx11 dX9_repeat_63 (fun H locs s12 es12 hW => ?_)
        have q13 : IC s12 := by rw [es12]; exact IC_o (by decide) q25_0
        have q14 : s12 1 1 = s0 1 1 := (show s12 1 1 = s_25 1 1 from by rw [es12, xU_k _ _ _ (by omega)]).trans q25_1
        have q15 : s12 126 2 = x7 := (show s12 126 2 = s_25 126 2 from by rw [es12, xU_k _ _ _ (by omega)]).trans q8
        have hF16 := hF_25.put es12 (by omega)
        have A63 : s12 127 = wrep (s0 127) a (s0 126 2) (i4_25 + 1) := by rw [es12, xU_xud]; exact wrep_s v25_2 (by omega) (by omega) (by omega) R62 rfl
        refine x_aload_n hx hb hl 0 rfl dX9_repeat_64 rfl ?_
        refine lv_dup hx hb dX9_repeat_65 rfl ?_
        refine x_get (j := 2) (v := .int (xJ (s12 126 2))) hx hb hown hT hE hW cls_X9 (Or.inl (by decide)) (so_126 h0 g _) (by decide) rfl wq309 dX9_repeat_66 ?_
        refine x_rd hW (fun x17 ex17 rx17 => ?_)
        have bx17 : 0 ≤ x17 ∧ x17 ≤ 60 := by rw [ex17]; exact IC.y q13
        have fx17 : x17 = x7 := ex17.trans q15
        refine x_iconst hx hb dX9_repeat_69 ?_
        refine x_iadd hx hb dX9_repeat_70 ?_
        refine x_put (j := 2) hx hb hown hT hE hW cls_X9 (by decide) (fun σ => so_126 h0 g σ) (by decide) (st_X9_2 h0 s12 126 (x17 + 1)) (ln_X9_2 h0 _ _) wq309 rfl rfl rfl (by omega) dX9_repeat_71 (fun H locs s18 es18 hW => ?_)
        have q19 : IC s18 := by rw [es18]; exact IC_126 q13 (by omega)
        have q20 : s18 1 1 = s0 1 1 := (show s18 1 1 = s12 1 1 from by rw [es18, xU_k _ _ _ (by omega)]).trans q14
        have q21 : s18 126 2 = (x17 + 1) := by rw [es18, xU_s]
        have hF22 := hF16.put es18 (by omega)
        refine x_iinc (lv' := [(4, .int (xJ (i4_25 + 1))), (0, .ref (h0 + 126)), (1, .int (xJ a)), (2, .int (xJ b)), (3, .int (xJ x2))]) hx hb hl 4 rfl dX9_repeat_74 (by decide) rfl (fun ls hl => ?_)
        refine lv_goto (tgt := 25) hx hb dX9_repeat_77 (by decide) ?_
        exact ih25 (i4_25 + 1) s18 H locs ls (by omega) hF22 q19 q20 (by omega) (by omega) (by rw [es18, xU_k _ _ _ (by omega)]; exact A63) (by omega) hW (lv_sub hl [1, 2, 3, 4, 0] rfl)
    exact L25 ((b * x2 - 0 : Int).toNat + 1) 0 s0 H locs ls (by decide) hF p0 k1_1 (by omega) (by omega) ((wrep_0 _ _ _ rfl).symm) (Nat.lt_succ_self _) hW (lv_sub hl [2, 3, 4, 1, 0] rfl)
  refine x_iconst hx hb dX9_repeat_20 ?_
  rw [eQ]
  exact x_zret hx hb hr hlk hW (by omega) ⟨hF, ⟨p0, trivial⟩, Or.inr ⟨by omega, by rw [← X6]; omega, by omega, rfl⟩⟩ dX9_repeat_21
set_option maxHeartbeats 4000000 in
set_option maxRecDepth 100000 in
theorem c_X9_readStepW2 (l : Launch) (D : va_G) (g : xG) (T : Nat × Nat × Nat) (h0 : Nat) (s0 : xS) (hσ : xRR s0) (q : Int) (rq : xR q) (Z : Int × Int × (Int → Int)) (st : List (Int × Int × Int)) (hq : q = 2) (hst : st.length = 2) (hat : 0 ≤ s0 1 3 ∧ s0 1 3 ≤ s0 1 2 ∧ s0 1 2 ≤ 80) (hz : zWS (s0 2) (s0 1 2) 1 Z true (s0 1 3) (s0 126 2) (s0 127) st) (p0 : IC s0) : Met l yX9_readStep (xws yX9_readStep cX9_readStep 6 (some .boolean)) { frames := 1, cells := 0, slots := 0, locals := 24 } (xP [.ref (h0 + 126), .int (xJ q)] D g T h0 s0) (xQi D g h0 (fun r τ => xFr (fun k => k = 1 ∨ k = 126 ∨ k = 127) s0 τ ∧ (((IC τ) ∧ (τ 1 1 = s0 1 1) ∧ (τ 1 2 = s0 1 2) ∧ True) ∧ ((r = 1 ∧ zWS (s0 2) (s0 1 2) 1 Z false (τ 1 3) (τ 126 2) (τ 127) st ∧ s0 1 3 + 1 ≤ τ 1 3 ∧ τ 1 3 ≤ s0 1 2 ∧ s0 126 2 < τ 126 2) ∨ (r = 0 ∧ Z.1 ≠ 0 ∧ τ 1 4 = Z.1))))) 0 0 (xA h0) := by
  refine x_met hσ (by decide) (Nat.le_of_ble_eq_true rfl) ?_
  intro p e s m args below meth c hx hb hr hml hown hT hlk hnm hE hW ls hl
  have hl : lv_has ls 6 [(0, .ref (h0 + 126)), (1, .int (xJ q))] := hl
  obtain ⟨Q, eQ⟩ : ∃ Q, Q = MQ below (xQi D g h0 (fun r τ => xFr (fun k => k = 1 ∨ k = 126 ∨ k = 127) s0 τ ∧ (((IC τ) ∧ (τ 1 1 = s0 1 1) ∧ (τ 1 2 = s0 1 2) ∧ True) ∧ ((r = 1 ∧ zWS (s0 2) (s0 1 2) 1 Z false (τ 1 3) (τ 126 2) (τ 127) st ∧ s0 1 3 + 1 ≤ τ 1 3 ∧ τ 1 3 ≤ s0 1 2 ∧ s0 126 2 < τ 126 2) ∨ (r = 0 ∧ Z.1 ≠ 0 ∧ τ 1 4 = Z.1))))) args s 0 0 (xA h0) := ⟨_, rfl⟩
  rw [← eQ]
  generalize hHe : ([] : List Loc) = locs at hW ⊢
  obtain ⟨H, eH⟩ : ∃ H, H = s.heap := ⟨_, rfl⟩
  rw [← eH] at hW ⊢
  have hF : xFr (fun k => k = 1 ∨ k = 126 ∨ k = 127) s0 s0 := xFr.rf
  have k1_1 : s0 1 1 = s0 1 1 := rfl
  have k1_2 : s0 1 2 = s0 1 2 := rfl
  have k1_3 : s0 1 3 = s0 1 3 := rfl
  have k126_2 : s0 126 2 = s0 126 2 := rfl
  refine x_aload_n hx hb hl 0 rfl dX9_readStep_0 rfl ?_
  refine x_get (j := 0) (v := .ref (h0 + 1)) hx hb hown hT hE hW cls_X9 (Or.inl (by decide)) (so_126 h0 g _) (by decide) rfl wq307 dX9_readStep_1 ?_
  refine x_getN (j := 3) (v := .int (xJ (s0 1 3))) hx hb hown hT hE hW cls_X8 (Or.inl (by decide)) (so_1 h0 g _) (by decide) rfl wn202 dX9_readStep_4 ?_
  refine x_rd hW (fun x1 ex1 rx1 => ?_)
  have fx1 : x1 = s0 1 3 := ex1.trans k1_3
  refine lv_istore_n (lv' := [(2, .int (xJ x1)), (0, .ref (h0 + 126)), (1, .int (xJ q))]) hx hb dX9_readStep_7 rfl hl (by decide) rfl (fun ls hl => ?_)
  refine x_aload_n hx hb hl 1 rfl dX9_readStep_8 rfl ?_
  refine x_get (j := 2) (v := .int (xJ (s0 126 2))) hx hb hown hT hE hW cls_X9 (Or.inl (by decide)) (so_126 h0 g _) (by decide) rfl wq309 dX9_readStep_9 ?_
  refine x_rd hW (fun x2 ex2 rx2 => ?_)
  have bx2 : 0 ≤ x2 ∧ x2 ≤ 60 := by rw [ex2]; exact IC.y p0
  have fx2 : x2 = s0 126 2 := ex2.trans k126_2
  refine lv_istore_n (lv' := [(3, .int (xJ x2)), (2, .int (xJ x1)), (0, .ref (h0 + 126)), (1, .int (xJ q))]) hx hb dX9_readStep_12 rfl hl (by decide) rfl (fun ls hl => ?_)
  refine x_iconst hx hb dX9_readStep_13 ?_
  refine lv_istore (lv' := [(4, .int (xJ 1)), (3, .int (xJ x2)), (2, .int (xJ x1)), (0, .ref (h0 + 126)), (1, .int (xJ q))]) hx hb dX9_readStep_14 hl (by decide) rfl (fun ls hl => ?_)
  refine x_aload_n hx hb hl 3 rfl dX9_readStep_16 rfl ?_
  refine x_get (j := 0) (v := .ref (h0 + 1)) hx hb hown hT hE hW cls_X9 (Or.inl (by decide)) (so_126 h0 g _) (by decide) rfl wq307 dX9_readStep_17 ?_
  refine x_goi (x_runVN (As := []) hx hb hml hown hT hE hW hl.1 (Or.inl (by decide)) (so_1 h0 g _) rfl cf_X8_sign wq581 wq4 wn727 (c_X8_sign l D g T h0 s0 hW.2.1 p0) ⟨rfl, rfl, ⟨by decide, by decide⟩, ⟨by decide, by decide⟩⟩ rfl rfl (Nat.le_of_ble_eq_true rfl) dX9_readStep_20) hW (fun x3 s4 H locs rx3 hp5 hW => ?_)
  obtain ⟨es4, hp5⟩ := hp5
  subst es4
  have ghp5 := hp5
  have C20 : x3 = zch (s0 2) (s0 1 2) (s0 1 3) := zch_i (by omega)
  have T20 := wtm_cs (zch (s0 2) (s0 1 2) (s0 1 3))
  have P20 := wp1_cs (s0 2) (s0 1 2) (s0 1 3)
  have X20 : zch (s0 2) (s0 1 2) (s0 1 3) ≠ -1 → s0 1 3 < s0 1 2 := zch_lt
  refine x_bipush hx hb dX9_readStep_23 (by decide) ?_
  have J65 : ∀ (i4_65 : Int) (s_65 : xS) (H : Heap) (locs : List Loc) (ls : Array Slot), (xR i4_65) → (xFr (fun k => k = 1 ∨ k = 126 ∨ k = 127) s0 s_65) → (IC s_65) → (s_65 1 1 = s0 1 1) → (s_65 1 2 = s0 1 2) → (s_65 126 2 = s0 126 2) → (1 ≤ i4_65 ∧ i4_65 ≤ 9) → (i4_65 = wtm (zch (s0 2) (s0 1 2) (s0 1 3)) ∧ s_65 1 3 = wp1 (s0 2) (s0 1 2) (s0 1 3)) → (s_65 1 3 ≤ s0 1 2) → (s_65 126 2 = s0 126 2 ∧ s_65 127 = s0 127) → xW D g h0 s H locs s_65 → lv_has ls 6 [(0, .ref (h0 + 126)), (1, .int (xJ q)), (2, .int (xJ x1)), (3, .int (xJ x2)), (4, .int (xJ i4_65))] → W p l e { frames := 1, cells := 0, slots := 0, locals := 24 } s m args below meth c H locs 0 0 Q (F0 m 65 ls []) := by
    intro i4_65 s_65 H locs ls ri4_65 hF_65 q65_0 q65_1 q65_2 q65_4 v65_0 v65_1 v65_2 v65_3 hW hl
    refine x_aload_n hx hb hl 0 rfl dX9_readStep_65 rfl ?_
    refine x_get (j := 0) (v := .ref (h0 + 1)) hx hb hown hT hE hW cls_X9 (Or.inl (by decide)) (so_126 h0 g _) (by decide) rfl wq307 dX9_readStep_66 ?_
    refine x_goi (x_runVN (As := []) hx hb hml hown hT hE hW hl.1 (Or.inl (by decide)) (so_1 h0 g _) rfl cf_X8_sign wq581 wq4 wn727 (c_X8_sign l D g T h0 s_65 hW.2.1 q65_0) ⟨rfl, rfl, ⟨by decide, by decide⟩, ⟨by decide, by decide⟩⟩ rfl rfl (Nat.le_of_ble_eq_true rfl) dX9_readStep_69) hW (fun x6 s7 H locs rx6 hp8 hW => ?_)
    obtain ⟨es7, hp8⟩ := hp8
    subst es7
    have ghp8 := hp8
    have C69 : x6 = zch (s0 2) (s0 1 2) (s_65 1 3) := zch_i (by have q := congrFun (hF_65 2 (by omega)) (s_65 1 3); omega)
    have X69 : zch (s0 2) (s0 1 2) (s_65 1 3) ≠ -1 → s_65 1 3 < s0 1 2 := zch_lt
    refine x_bipush hx hb dX9_readStep_72 (by decide) ?_
    refine x_icmp_ne (tgt := 166) hx hb rx6 (by decide) dX9_readStep_74 (by decide) (fun c9 => ?_) (fun c9 => ?_)
    · skip
      refine x_aload_n hx hb hl 0 rfl dX9_readStep_166 rfl ?_
      refine x_get (j := 0) (v := .ref (h0 + 1)) hx hb hown hT hE hW cls_X9 (Or.inl (by decide)) (so_126 h0 g _) (by decide) rfl wq307 dX9_readStep_167 ?_
      refine x_goi (x_runVN (As := []) hx hb hml hown hT hE hW hl.1 (Or.inl (by decide)) (so_1 h0 g _) rfl cf_X8_sign wq581 wq4 wn727 (c_X8_sign l D g T h0 s_65 hW.2.1 q65_0) ⟨rfl, rfl, ⟨by decide, by decide⟩, ⟨by decide, by decide⟩⟩ rfl rfl (Nat.le_of_ble_eq_true rfl) dX9_readStep_170) hW (fun x10 s11 H locs rx10 hp12 hW => ?_)
      obtain ⟨es11, hp12⟩ := hp12
      subst es11
      have ghp12 := hp12
      have C170 : x10 = zch (s0 2) (s0 1 2) (s_65 1 3) := zch_i (by have q := congrFun (hF_65 2 (by omega)) (s_65 1 3); omega)
      refine x_goi (x_runS (As := [.int (xJ x10)]) hx hb hml hown hT hE hW hl.1 cf_X9_stepOf wq735 wq734 (c_X9_stepOfW l D g T h0 s_65 hW.2.1 x10 rx10) ⟨rfl, rfl, ⟨by decide, by decide⟩, ⟨by decide, by decide⟩⟩ rfl rfl (Nat.le_of_ble_eq_true rfl) dX9_readStep_173) hW (fun x13 s14 H locs rx13 hp15 hW => ?_)
      obtain ⟨es14, hp15⟩ := hp15
      subst es14
      have ghp15 := hp15
      have S173 := wst_i ghp15
      rw [C170] at S173
      refine lv_istore (lv' := [(5, .int (xJ x13)), (0, .ref (h0 + 126)), (1, .int (xJ q)), (2, .int (xJ x1)), (3, .int (xJ x2)), (4, .int (xJ i4_65))]) hx hb dX9_readStep_176 hl (by decide) rfl (fun ls hl => ?_)
      refine x_iload hx hb hl 0 rfl dX9_readStep_178 ?_
      refine x_iconst hx hb dX9_readStep_180 ?_
      refine x_icmp_ne (tgt := 200) hx hb rx13 (by decide) dX9_readStep_181 (by decide) (fun c16 => ?_) (fun c16 => ?_)
      · skip
        refine x_aload_n hx hb hl 1 rfl dX9_readStep_200 rfl ?_
        refine x_get (j := 0) (v := .ref (h0 + 1)) hx hb hown hT hE hW cls_X9 (Or.inl (by decide)) (so_126 h0 g _) (by decide) rfl wq307 dX9_readStep_201 ?_
        refine lv_dup hx hb dX9_readStep_204 rfl ?_
        refine x_getN (j := 3) (v := .int (xJ (s_65 1 3))) hx hb hown hT hE hW cls_X8 (Or.inl (by decide)) (so_1 h0 g _) (by decide) rfl wn202 dX9_readStep_205 ?_
        refine x_rd hW (fun x17 ex17 rx17 => ?_)
        refine x_iconst hx hb dX9_readStep_208 ?_
        refine x_iadd hx hb dX9_readStep_209 ?_
        refine x_putN (j := 3) hx hb hown hT hE hW cls_X8 (by decide) (fun σ => so_1 h0 g σ) (by decide) (st_X8_3 h0 s_65 1 (x17 + 1)) (ln_X8_3 h0 _ _) wn202 rfl rfl rfl (by omega) dX9_readStep_210 (fun H locs s18 es18 hW => ?_)
        have q19 : IC s18 := by rw [es18]; exact IC_1 q65_0 (by omega)
        have q20 : s18 1 1 = s0 1 1 := (show s18 1 1 = s_65 1 1 from by rw [es18, xU_j _ _ (by decide)]).trans q65_1
        have q21 : s18 1 2 = s0 1 2 := (show s18 1 2 = s_65 1 2 from by rw [es18, xU_j _ _ (by decide)]).trans q65_2
        have q22 : s18 126 2 = s0 126 2 := (show s18 126 2 = s_65 126 2 from by rw [es18, xU_k _ _ _ (by omega)]).trans q65_4
        have q23 : s18 1 3 = (x17 + 1) := by rw [es18, xU_s]
        have hF24 := hF_65.put es18 (by omega)
        have Q210 : s18 126 2 = s0 126 2 ∧ s18 127 = s0 127 := by rw [es18, xU_k _ _ _ (by omega), xU_k _ _ _ (by omega)]; exact v65_3
        refine x_aload_n hx hb hl 1 rfl dX9_readStep_213 rfl ?_
        refine x_get (j := 2) (v := .int (xJ (s18 126 2))) hx hb hown hT hE hW cls_X9 (Or.inl (by decide)) (so_126 h0 g _) (by decide) rfl wq309 dX9_readStep_214 ?_
        refine x_rd hW (fun x25 ex25 rx25 => ?_)
        have bx25 : 0 ≤ x25 ∧ x25 ≤ 60 := by rw [ex25]; exact IC.y q19
        have fx25 : x25 = s0 126 2 := ex25.trans q22
        refine x_bipush hx hb dX9_readStep_217 (by decide) ?_
        refine x_icmp_lt (tgt := 233) hx hb rx25 (by decide) dX9_readStep_219 (by decide) (fun c26 => ?_) (fun c26 => ?_)
        · skip
          refine x_aload_n hx hb hl 1 rfl dX9_readStep_233 rfl ?_
          refine x_get (j := 1) (v := .ref (h0 + 127)) hx hb hown hT hE hW cls_X9 (Or.inl (by decide)) (so_126 h0 g _) (by decide) rfl wq308 dX9_readStep_234 ?_
          refine x_aload_n hx hb hl 1 rfl dX9_readStep_237 rfl ?_
          refine x_get (j := 2) (v := .int (xJ (s18 126 2))) hx hb hown hT hE hW cls_X9 (Or.inl (by decide)) (so_126 h0 g _) (by decide) rfl wq309 dX9_readStep_238 ?_
          refine x_rd hW (fun x27 ex27 rx27 => ?_)
          have bx27 : 0 ≤ x27 ∧ x27 ≤ 60 := by rw [ex27]; exact IC.y q19
          have fx27 : x27 = s0 126 2 := ex27.trans q22
          refine x_iload hx hb hl 0 rfl dX9_readStep_241 ?_
          refine x_iast hx hb hE hW (by decide) (fun σ => sa_127 h0 g σ) (by omega) (by decide) rx13 dX9_readStep_243 (fun H locs s28 es28 hW => ?_)
          have q29 : IC s28 := by rw [es28]; exact IC_o (by decide) q19
          have q30 : s28 1 1 = s0 1 1 := (show s28 1 1 = s18 1 1 from by rw [es28, xU_k _ _ _ (by omega)]).trans q20
          have q31 : s28 1 2 = s0 1 2 := (show s28 1 2 = s18 1 2 from by rw [es28, xU_k _ _ _ (by omega)]).trans q21
          have q32 : s28 126 2 = s0 126 2 := (show s28 126 2 = s18 126 2 from by rw [es28, xU_k _ _ _ (by omega)]).trans q22
          have q33 : s28 1 3 = (x17 + 1) := (show s28 1 3 = s18 1 3 from by rw [es28, xU_k _ _ _ (by omega)]).trans q23
          have hF34 := hF24.put es28 (by omega)
          have A243 : s28 127 = xud (s0 127) (s0 126 2) (1 * wst (zch (s0 2) (s0 1 2) (s_65 1 3))) ∧ s28 1 3 = s_65 1 3 + 1 := ⟨by rw [es28, xU_xud, Q210.2, show x27 = s0 126 2 from by omega, Int.one_mul, ← S173], by rw [es28, xU_k _ _ _ (by omega)]; omega⟩
          refine x_aload_n hx hb hl 1 rfl dX9_readStep_244 rfl ?_
          refine lv_dup hx hb dX9_readStep_245 rfl ?_
          refine x_get (j := 2) (v := .int (xJ (s28 126 2))) hx hb hown hT hE hW cls_X9 (Or.inl (by decide)) (so_126 h0 g _) (by decide) rfl wq309 dX9_readStep_246 ?_
          refine x_rd hW (fun x35 ex35 rx35 => ?_)
          have bx35 : 0 ≤ x35 ∧ x35 ≤ 60 := by rw [ex35]; exact IC.y q29
          have fx35 : x35 = s0 126 2 := ex35.trans q32
          refine x_iconst hx hb dX9_readStep_249 ?_
          refine x_iadd hx hb dX9_readStep_250 ?_
          refine x_put (j := 2) hx hb hown hT hE hW cls_X9 (by decide) (fun σ => so_126 h0 g σ) (by decide) (st_X9_2 h0 s28 126 (x35 + 1)) (ln_X9_2 h0 _ _) wq309 rfl rfl rfl (by omega) dX9_readStep_251 (fun H locs s36 es36 hW => ?_)
          have q37 : IC s36 := by rw [es36]; exact IC_126 q29 (by omega)
          have q38 : s36 1 1 = s0 1 1 := (show s36 1 1 = s28 1 1 from by rw [es36, xU_k _ _ _ (by omega)]).trans q30
          have q39 : s36 1 2 = s0 1 2 := (show s36 1 2 = s28 1 2 from by rw [es36, xU_k _ _ _ (by omega)]).trans q31
          have q40 : s36 126 2 = (x35 + 1) := by rw [es36, xU_s]
          have q41 : s36 1 3 = (x17 + 1) := (show s36 1 3 = s28 1 3 from by rw [es36, xU_k _ _ _ (by omega)]).trans q33
          have hF42 := hF34.put es36 (by omega)
          have A251 : s36 127 = xud (s0 127) (s0 126 2) (1 * wst (zch (s0 2) (s0 1 2) (s_65 1 3))) ∧ s36 1 3 = s_65 1 3 + 1 := by rw [es36, xU_k _ _ _ (by omega), xU_k _ _ _ (by omega)]; exact A243
          have B251 : s36 126 2 = s0 126 2 + 1 := by omega
          refine x_aload_n hx hb hl 1 rfl dX9_readStep_254 rfl ?_
          refine x_iload_n hx hb hl 4 rfl dX9_readStep_255 rfl ?_
          refine x_iload hx hb hl 5 rfl dX9_readStep_256 ?_
          refine x_iconst hx hb dX9_readStep_258 ?_
          refine x_isub hx hb dX9_readStep_259 ?_
          refine x_goi (x_runV (As := [.int (xJ x2), .int (xJ (i4_65 - 1))]) hx hb hml hown hT hE hW hl.1 (Or.inl (by decide)) (so_126 h0 g _) rfl cf_X9_repeat wq732 wq31 wq730 (c_X9_repeatW l D g T h0 s36 hW.2.1 x2 rx2 (i4_65 - 1) (by omega) (by have y := IC.y q37; omega) (by omega) q37) ⟨rfl, rfl, ⟨by decide, by decide⟩, ⟨by decide, by decide⟩⟩ rfl rfl (Nat.le_of_ble_eq_true rfl) dX9_readStep_260) hW (fun x43 s44 H locs rx43 hp45 hW => ?_)
          obtain ⟨fs44, hp45⟩ := hp45
          have hF46 := hF42.call fs44 (fun k h => by omega)
          have q47 : s44 1 1 = s0 1 1 := (congrFun (fs44 _ (by omega)) _).trans q38
          have q48 : s44 1 2 = s0 1 2 := (congrFun (fs44 _ (by omega)) _).trans q39
          have q49 : s44 1 3 = (x17 + 1) := (congrFun (fs44 _ (by omega)) _).trans q41
          have ghp45 := hp45.2
          have R260 := ghp45
          rw [A251.1, B251, show x2 = s0 126 2 from by omega, show s0 126 2 + 1 - s0 126 2 = 1 from by omega, Int.mul_one] at R260
          have E260 : s44 1 3 = s_65 1 3 + 1 := (congrFun (fs44 1 (by omega)) 3).trans A251.2
          refine x_if_ne (tgt := 279) hx hb rx43 dX9_readStep_263 (by decide) (fun c50 => ?_) (fun c50 => ?_)
          · skip
            refine x_iconst hx hb dX9_readStep_279 ?_
            refine lv_goto (tgt := 284) hx hb dX9_readStep_280 (by decide) ?_
            rw [eQ]
            exact x_zret hx hb hr hlk hW (by omega) ⟨hF46, ⟨hp45.1.1, q47, q48, trivial⟩, by first | exact Or.inl ⟨by omega, hz.step (by omega) v65_1.2 v65_1.1 (by omega) (by omega) (by omega) (by omega) (by omega) (R260.resolve_right (fun q => by omega)).2.2.2, by omega, by omega, by omega⟩ | (have z := hz.six (by omega) v65_1.2 v65_1.1 (by omega) (by omega) (by omega); rw [z]; exact Or.inr ⟨by omega, (by show (-6000 - _ : Int) ≠ 0; omega), (by show _ = (-6000 - _ : Int); omega)⟩)⟩ dX9_readStep_284
          refine x_aload_n hx hb hl 1 rfl dX9_readStep_266 rfl ?_
          refine x_get (j := 0) (v := .ref (h0 + 1)) hx hb hown hT hE hW cls_X9 (Or.inl (by decide)) (so_126 h0 g _) (by decide) rfl wq307 dX9_readStep_267 ?_
          refine x_bipush hx hb dX9_readStep_270 (by decide) ?_
          refine x_iload_n hx hb hl 3 rfl dX9_readStep_272 rfl ?_
          refine x_goi (x_runVN (As := [.int (xJ 6), .int (xJ x1)]) hx hb hml hown hT hE hW hl.1 (Or.inl (by decide)) (so_1 h0 g _) rfl cf_X8_fails wq588 wq5 wn728 (c_X8_failsM l D g T h0 s44 hW.2.1 6 (by decide) x1 rx1 (by omega) hp45.1.1) ⟨rfl, rfl, ⟨by decide, by decide⟩, ⟨by decide, by decide⟩⟩ rfl rfl (Nat.le_of_ble_eq_true rfl) dX9_readStep_273) hW (fun x51 s52 H locs rx51 hp53 hW => ?_)
          obtain ⟨fs52, hp53⟩ := hp53
          have hF54 := hF46.call fs52 (fun k h => by omega)
          have ghp53 := hp53.2
          refine x_if_eq (tgt := 283) hx hb rx51 dX9_readStep_276 (by decide) (fun c55 => ?_) (fun c55 => False.elim (by omega))
          refine x_iconst hx hb dX9_readStep_283 ?_
          rw [eQ]
          exact x_zret hx hb hr hlk hW (by omega) ⟨hF54, ⟨hp53.1.1, (hp53.1.2.1.trans q47), (hp53.1.2.2.1.trans q48), trivial⟩, by first | exact Or.inl ⟨by omega, hz.step (by omega) v65_1.2 v65_1.1 (by omega) (by omega) (by omega) (by omega) (by omega) (R260.resolve_right (fun q => by omega)).2.2.2, by omega, by omega, by omega⟩ | (have z := hz.six (by omega) v65_1.2 v65_1.1 (by omega) (by omega) (by omega); rw [z]; exact Or.inr ⟨by omega, (by show (-6000 - _ : Int) ≠ 0; omega), (by show _ = (-6000 - _ : Int); omega)⟩)⟩ dX9_readStep_284
        refine x_aload_n hx hb hl 1 rfl dX9_readStep_222 rfl ?_
        refine x_get (j := 0) (v := .ref (h0 + 1)) hx hb hown hT hE hW cls_X9 (Or.inl (by decide)) (so_126 h0 g _) (by decide) rfl wq307 dX9_readStep_223 ?_
        refine x_bipush hx hb dX9_readStep_226 (by decide) ?_
        refine x_iload_n hx hb hl 3 rfl dX9_readStep_228 rfl ?_
        refine x_goi (x_runVN (As := [.int (xJ 6), .int (xJ x1)]) hx hb hml hown hT hE hW hl.1 (Or.inl (by decide)) (so_1 h0 g _) rfl cf_X8_fails wq588 wq5 wn728 (c_X8_failsM l D g T h0 s18 hW.2.1 6 (by decide) x1 rx1 (by omega) q19) ⟨rfl, rfl, ⟨by decide, by decide⟩, ⟨by decide, by decide⟩⟩ rfl rfl (Nat.le_of_ble_eq_true rfl) dX9_readStep_229) hW (fun x56 s57 H locs rx56 hp58 hW => ?_)
        obtain ⟨fs57, hp58⟩ := hp58
        have hF59 := hF24.call fs57 (fun k h => by omega)
        have q60 : s57 126 2 = s0 126 2 := (congrFun (fs57 _ (by omega)) _).trans q22
        have ghp58 := hp58.2
        rw [eQ]
        exact x_zret hx hb hr hlk hW (by omega) ⟨hF59, ⟨hp58.1.1, (hp58.1.2.1.trans q20), (hp58.1.2.2.1.trans q21), trivial⟩, by
            have z := hz.six (by omega) v65_1.2 v65_1.1 (by omega) (by omega) (by omega)
            rw [z]
            exact Or.inr ⟨by omega, (by show (-6000 - _ : Int) ≠ 0; omega), (by show _ = (-6000 - _ : Int); omega)⟩⟩ dX9_readStep_232
      refine x_aload_n hx hb hl 1 rfl dX9_readStep_184 rfl ?_
      refine x_get (j := 0) (v := .ref (h0 + 1)) hx hb hown hT hE hW cls_X9 (Or.inl (by decide)) (so_126 h0 g _) (by decide) rfl wq307 dX9_readStep_185 ?_
      refine x_iconst hx hb dX9_readStep_188 ?_
      refine x_aload_n hx hb hl 1 rfl dX9_readStep_189 rfl ?_
      refine x_get (j := 0) (v := .ref (h0 + 1)) hx hb hown hT hE hW cls_X9 (Or.inl (by decide)) (so_126 h0 g _) (by decide) rfl wq307 dX9_readStep_190 ?_
      refine x_getN (j := 3) (v := .int (xJ (s_65 1 3))) hx hb hown hT hE hW cls_X8 (Or.inl (by decide)) (so_1 h0 g _) (by decide) rfl wn202 dX9_readStep_193 ?_
      refine x_rd hW (fun x61 ex61 rx61 => ?_)
      refine x_goi (x_runVN (As := [.int (xJ 1), .int (xJ x61)]) hx hb hml hown hT hE hW hl.1 (Or.inl (by decide)) (so_1 h0 g _) rfl cf_X8_fails wq588 wq5 wn728 (c_X8_failsM l D g T h0 s_65 hW.2.1 1 (by decide) x61 rx61 (by omega) q65_0) ⟨rfl, rfl, ⟨by decide, by decide⟩, ⟨by decide, by decide⟩⟩ rfl rfl (Nat.le_of_ble_eq_true rfl) dX9_readStep_196) hW (fun x62 s63 H locs rx62 hp64 hW => ?_)
      obtain ⟨fs63, hp64⟩ := hp64
      have hF65 := hF_65.call fs63 (fun k h => by omega)
      have q66 : s63 126 2 = s0 126 2 := (congrFun (fs63 _ (by omega)) _).trans q65_4
      have ghp64 := hp64.2
      rw [eQ]
      exact x_zret hx hb hr hlk hW (by omega) ⟨hF65, ⟨hp64.1.1, (hp64.1.2.1.trans q65_1), (hp64.1.2.2.1.trans q65_2), trivial⟩, by
          have z := hz.one (by omega) v65_1.2 (by omega) (by omega)
          rw [z]
          exact Or.inr ⟨by omega, (by show (-1000 - _ : Int) ≠ 0; omega), (by show _ = (-1000 - _ : Int); omega)⟩⟩ dX9_readStep_199
    refine x_iload_n hx hb hl 1 rfl dX9_readStep_77 rfl ?_
    refine x_iconst hx hb dX9_readStep_78 ?_
    refine x_icmp_lt (tgt := 98) hx hb rq (by decide) dX9_readStep_79 (by decide) (fun c67 => False.elim (by omega)) (fun c67 => ?_)
    refine x_aload_n hx hb hl 0 rfl dX9_readStep_82 rfl ?_
    refine x_get (j := 0) (v := .ref (h0 + 1)) hx hb hown hT hE hW cls_X9 (Or.inl (by decide)) (so_126 h0 g _) (by decide) rfl wq307 dX9_readStep_83 ?_
    refine x_iconst hx hb dX9_readStep_86 ?_
    refine x_aload_n hx hb hl 0 rfl dX9_readStep_87 rfl ?_
    refine x_get (j := 0) (v := .ref (h0 + 1)) hx hb hown hT hE hW cls_X9 (Or.inl (by decide)) (so_126 h0 g _) (by decide) rfl wq307 dX9_readStep_88 ?_
    refine x_getN (j := 3) (v := .int (xJ (s_65 1 3))) hx hb hown hT hE hW cls_X8 (Or.inl (by decide)) (so_1 h0 g _) (by decide) rfl wn202 dX9_readStep_91 ?_
    refine x_rd hW (fun x68 ex68 rx68 => ?_)
    refine x_goi (x_runVN (As := [.int (xJ 5), .int (xJ x68)]) hx hb hml hown hT hE hW hl.1 (Or.inl (by decide)) (so_1 h0 g _) rfl cf_X8_fails wq588 wq5 wn728 (c_X8_failsM l D g T h0 s_65 hW.2.1 5 (by decide) x68 rx68 (by omega) q65_0) ⟨rfl, rfl, ⟨by decide, by decide⟩, ⟨by decide, by decide⟩⟩ rfl rfl (Nat.le_of_ble_eq_true rfl) dX9_readStep_94) hW (fun x69 s70 H locs rx69 hp71 hW => ?_)
    obtain ⟨fs70, hp71⟩ := hp71
    have hF72 := hF_65.call fs70 (fun k h => by omega)
    have q73 : s70 126 2 = s0 126 2 := (congrFun (fs70 _ (by omega)) _).trans q65_4
    have ghp71 := hp71.2
    rw [eQ]
    exact x_zret hx hb hr hlk hW (by omega) ⟨hF72, ⟨hp71.1.1, (hp71.1.2.1.trans q65_1), (hp71.1.2.2.1.trans q65_2), trivial⟩, by
        have z := hz.five (by omega) v65_1.2 (by omega) (by omega)
        rw [z]
        exact Or.inr ⟨by omega, (by show (-5000 - _ : Int) ≠ 0; omega), (by show _ = (-5000 - _ : Int); omega)⟩⟩ dX9_readStep_97
  refine x_icmp_lt (tgt := 65) hx hb rx3 (by decide) dX9_readStep_25 (by decide) (fun c74 => ?_) (fun c74 => ?_)
  · skip
    exact J65 1 s0 H locs ls (by decide) hF p0 k1_1 k1_2 k126_2 (by omega) (by omega) (by omega) (by first | exact ⟨rfl, rfl⟩ | (rw [es0, xU_k _ _ _ (by omega), xU_k _ _ _ (by omega)]; exact ⟨rfl, rfl⟩)) hW (lv_sub hl [3, 4, 2, 1, 0] rfl)
  refine x_aload_n hx hb hl 3 rfl dX9_readStep_28 rfl ?_
  refine x_get (j := 0) (v := .ref (h0 + 1)) hx hb hown hT hE hW cls_X9 (Or.inl (by decide)) (so_126 h0 g _) (by decide) rfl wq307 dX9_readStep_29 ?_
  refine x_goi (x_runVN (As := []) hx hb hml hown hT hE hW hl.1 (Or.inl (by decide)) (so_1 h0 g _) rfl cf_X8_sign wq581 wq4 wn727 (c_X8_sign l D g T h0 s0 hW.2.1 p0) ⟨rfl, rfl, ⟨by decide, by decide⟩, ⟨by decide, by decide⟩⟩ rfl rfl (Nat.le_of_ble_eq_true rfl) dX9_readStep_32) hW (fun x75 s76 H locs rx75 hp77 hW => ?_)
  obtain ⟨es76, hp77⟩ := hp77
  subst es76
  have ghp77 := hp77
  have C32 : x75 = zch (s0 2) (s0 1 2) (s0 1 3) := zch_i (by omega)
  refine x_bipush hx hb dX9_readStep_35 (by decide) ?_
  refine x_icmp_gt (tgt := 65) hx hb rx75 (by decide) dX9_readStep_37 (by decide) (fun c78 => ?_) (fun c78 => ?_)
  · skip
    exact J65 1 s0 H locs ls (by decide) hF p0 k1_1 k1_2 k126_2 (by omega) (by omega) (by omega) (by first | exact ⟨rfl, rfl⟩ | (rw [es0, xU_k _ _ _ (by omega), xU_k _ _ _ (by omega)]; exact ⟨rfl, rfl⟩)) hW (lv_sub hl [3, 4, 2, 1, 0] rfl)
  refine x_aload_n hx hb hl 3 rfl dX9_readStep_40 rfl ?_
  refine x_get (j := 0) (v := .ref (h0 + 1)) hx hb hown hT hE hW cls_X9 (Or.inl (by decide)) (so_126 h0 g _) (by decide) rfl wq307 dX9_readStep_41 ?_
  refine x_goi (x_runVN (As := []) hx hb hml hown hT hE hW hl.1 (Or.inl (by decide)) (so_1 h0 g _) rfl cf_X8_sign wq581 wq4 wn727 (c_X8_sign l D g T h0 s0 hW.2.1 p0) ⟨rfl, rfl, ⟨by decide, by decide⟩, ⟨by decide, by decide⟩⟩ rfl rfl (Nat.le_of_ble_eq_true rfl) dX9_readStep_44) hW (fun x79 s80 H locs rx79 hp81 hW => ?_)
  obtain ⟨es80, hp81⟩ := hp81
  subst es80
  have ghp81 := hp81
  have C44 : x79 = zch (s0 2) (s0 1 2) (s0 1 3) := zch_i (by omega)
  refine x_bipush hx hb dX9_readStep_47 (by decide) ?_
  refine x_isub hx hb dX9_readStep_49 ?_
  refine x_nm (fun x82 ex82 => ?_)
  refine lv_istore (lv' := [(4, .int (xJ x82)), (3, .int (xJ x2)), (2, .int (xJ x1)), (0, .ref (h0 + 126)), (1, .int (xJ q))]) hx hb dX9_readStep_50 hl (by decide) rfl (fun ls hl => ?_)
  refine x_aload_n hx hb hl 3 rfl dX9_readStep_52 rfl ?_
  refine x_get (j := 0) (v := .ref (h0 + 1)) hx hb hown hT hE hW cls_X9 (Or.inl (by decide)) (so_126 h0 g _) (by decide) rfl wq307 dX9_readStep_53 ?_
  refine lv_dup hx hb dX9_readStep_56 rfl ?_
  refine x_getN (j := 3) (v := .int (xJ (s0 1 3))) hx hb hown hT hE hW cls_X8 (Or.inl (by decide)) (so_1 h0 g _) (by decide) rfl wn202 dX9_readStep_57 ?_
  refine x_rd hW (fun x83 ex83 rx83 => ?_)
  have fx83 : x83 = s0 1 3 := ex83.trans k1_3
  refine x_iconst hx hb dX9_readStep_60 ?_
  refine x_iadd hx hb dX9_readStep_61 ?_
  refine x_putN (j := 3) hx hb hown hT hE hW cls_X8 (by decide) (fun σ => so_1 h0 g σ) (by decide) (st_X8_3 h0 s0 1 (x83 + 1)) (ln_X8_3 h0 _ _) wn202 rfl rfl rfl (by omega) dX9_readStep_62 (fun H locs s84 es84 hW => ?_)
  have q85 : IC s84 := by rw [es84]; exact IC_1 p0 (by omega)
  have q86 : s84 1 1 = s0 1 1 := (show s84 1 1 = s0 1 1 from by rw [es84, xU_j _ _ (by decide)]).trans k1_1
  have q87 : s84 1 2 = s0 1 2 := (show s84 1 2 = s0 1 2 from by rw [es84, xU_j _ _ (by decide)]).trans k1_2
  have q88 : s84 1 3 = (x83 + 1) := by rw [es84, xU_s]
  have q89 : s84 126 2 = s0 126 2 := (show s84 126 2 = s0 126 2 from by rw [es84, xU_k _ _ _ (by omega)]).trans k126_2
  have hF90 := hF.put es84 (by omega)
  exact J65 x82 s84 H locs ls (by omega) hF90 q85 q86 q87 q89 (by omega) (by omega) (by omega) (by first | exact ⟨rfl, rfl⟩ | (rw [es84, xU_k _ _ _ (by omega), xU_k _ _ _ (by omega)]; exact ⟨rfl, rfl⟩)) hW (lv_sub hl [3, 4, 2, 1, 0] rfl)
set_option maxHeartbeats 4000000 in
set_option maxRecDepth 100000 in
theorem c_X9_readStepsW2 (l : Launch) (D : va_G) (g : xG) (T : Nat × Nat × Nat) (h0 : Nat) (s0 : xS) (hσ : xRR s0) (q : Int) (rq : xR q) (Z : Int × Int × (Int → Int)) (st : List (Int × Int × Int)) (hq : q = 2) (hst : st.length = 2) (hat : 1 ≤ s0 1 3 ∧ s0 1 3 ≤ s0 1 2 ∧ s0 1 2 ≤ 80) (hz : zWS (s0 2) (s0 1 2) 1 Z true (s0 1 3) (s0 126 2) (s0 127) st) (p0 : IC s0) : Met l yX9_readSteps (xws yX9_readSteps cX9_readSteps 4 (some .boolean)) { frames := 2, cells := 0, slots := 0, locals := 49 } (xP [.ref (h0 + 126), .int (xJ q)] D g T h0 s0) (xQi D g h0 (fun r τ => xFr (fun k => k = 1 ∨ k = 126 ∨ k = 127) s0 τ ∧ (((IC τ) ∧ (τ 1 1 = s0 1 1) ∧ (τ 1 2 = s0 1 2) ∧ True) ∧ ((r = 1 ∧ zWS (s0 2) (s0 1 2) 1 Z false (τ 1 3) (τ 126 2) (τ 127) st ∧ s0 1 3 + 1 ≤ τ 1 3 ∧ τ 1 3 ≤ s0 1 2 ∧ s0 126 2 < τ 126 2 ∧ zch (s0 2) (s0 1 2) (τ 1 3) = 41) ∨ (r = 0 ∧ Z.1 ≠ 0 ∧ τ 1 4 = Z.1))))) 0 0 (xA h0) := by
  refine x_met hσ (by decide) (Nat.le_of_ble_eq_true rfl) ?_
  intro p e s m args below meth c hx hb hr hml hown hT hlk hnm hE hW ls hl
  have hl : lv_has ls 4 [(0, .ref (h0 + 126)), (1, .int (xJ q))] := hl
  obtain ⟨Q, eQ⟩ : ∃ Q, Q = MQ below (xQi D g h0 (fun r τ => xFr (fun k => k = 1 ∨ k = 126 ∨ k = 127) s0 τ ∧ (((IC τ) ∧ (τ 1 1 = s0 1 1) ∧ (τ 1 2 = s0 1 2) ∧ True) ∧ ((r = 1 ∧ zWS (s0 2) (s0 1 2) 1 Z false (τ 1 3) (τ 126 2) (τ 127) st ∧ s0 1 3 + 1 ≤ τ 1 3 ∧ τ 1 3 ≤ s0 1 2 ∧ s0 126 2 < τ 126 2 ∧ zch (s0 2) (s0 1 2) (τ 1 3) = 41) ∨ (r = 0 ∧ Z.1 ≠ 0 ∧ τ 1 4 = Z.1))))) args s 0 0 (xA h0) := ⟨_, rfl⟩
  rw [← eQ]
  generalize hHe : ([] : List Loc) = locs at hW ⊢
  obtain ⟨H, eH⟩ : ∃ H, H = s.heap := ⟨_, rfl⟩
  rw [← eH] at hW ⊢
  have hF : xFr (fun k => k = 1 ∨ k = 126 ∨ k = 127) s0 s0 := xFr.rf
  have k1_1 : s0 1 1 = s0 1 1 := rfl
  have k1_2 : s0 1 2 = s0 1 2 := rfl
  refine x_iload_n hx hb hl 1 rfl dX9_readSteps_0 rfl ?_
  refine x_if_ne (tgt := 8) hx hb rq dX9_readSteps_1 (by decide) (fun c1 => ?_) (fun c1 => False.elim (by omega))
  refine x_bipush hx hb dX9_readSteps_8 (by decide) ?_
  refine lv_istore_n (lv' := [(2, .int (xJ 41)), (0, .ref (h0 + 126)), (1, .int (xJ q))]) hx hb dX9_readSteps_10 rfl hl (by decide) rfl (fun ls hl => ?_)
  refine x_iconst hx hb dX9_readSteps_11 ?_
  refine lv_istore_n (lv' := [(3, .int (xJ 0)), (2, .int (xJ 41)), (0, .ref (h0 + 126)), (1, .int (xJ q))]) hx hb dX9_readSteps_12 rfl hl (by decide) rfl (fun ls hl => ?_)
  have L13 : ∀ (fu : Nat) (i3_13 : Int) (s_13 : xS) (H : Heap) (locs : List Loc) (ls : Array Slot), (xR i3_13) → (xFr (fun k => k = 1 ∨ k = 126 ∨ k = 127) s0 s_13) → (IC s_13) → (s_13 1 1 = s0 1 1) → (s_13 1 2 = s0 1 2) → (0 ≤ i3_13 ∧ i3_13 ≤ s_13 1 3 - s0 1 3 ∧ s_13 1 3 ≤ s0 1 2 ∧ s0 126 2 + i3_13 ≤ s_13 126 2) → (zWS (s0 2) (s0 1 2) 1 Z true (s_13 1 3) (s_13 126 2) (s_13 127) st) → (80 - i3_13).toNat < fu → xW D g h0 s H locs s_13 → lv_has ls 4 [(0, .ref (h0 + 126)), (1, .int (xJ q)), (2, .int (xJ 41)), (3, .int (xJ i3_13))] → W p l e { frames := 2, cells := 0, slots := 0, locals := 49 } s m args below meth c H locs 0 0 Q (F0 m 13 ls []) := by
    intro fu
    induction fu with
    | zero => intro i3_13 s_13 H locs ls ri3_13 hF_13 q13_0 q13_1 q13_2 v13_0 v13_1 hm; exact absurd hm (Nat.not_lt_zero _)
    | succ fu ih13 =>
      intro i3_13 s_13 H locs ls ri3_13 hF_13 q13_0 q13_1 q13_2 v13_0 v13_1 hm hW hl
      refine x_iload_n hx hb hl 3 rfl dX9_readSteps_13 rfl ?_
      refine x_bipush hx hb dX9_readSteps_14 (by decide) ?_
      refine x_icmp_ge (tgt := 48) hx hb ri3_13 (by decide) dX9_readSteps_16 (by decide) (fun c2 => False.elim (by omega)) (fun c2 => ?_)
      refine x_aload_n hx hb hl 0 rfl dX9_readSteps_19 rfl ?_
      refine x_iload_n hx hb hl 1 rfl dX9_readSteps_20 rfl ?_
      refine x_goi (x_runV (As := [.int (xJ q)]) hx hb hml hown hT hE hW hl.1 (Or.inl (by decide)) (so_126 h0 g _) rfl cf_X9_readStep wq725 wq30 wq723 (c_X9_readStepW2 l D g T h0 s_13 hW.2.1 q rq Z st (by omega) (hst) (by omega) (by rw [hF_13 2 (by omega), show s_13 1 2 = s0 1 2 from by omega]; exact v13_1) q13_0) ⟨rfl, rfl, ⟨by decide, by decide⟩, ⟨by decide, by decide⟩⟩ rfl rfl (Nat.le_of_ble_eq_true rfl) dX9_readSteps_21) hW (fun x3 s4 H locs rx3 hp5 hW => ?_)
      obtain ⟨fs4, hp5⟩ := hp5
      have hF6 := hF_13.call fs4 (fun k h => by omega)
      have ghp5 := hp5.2
      have H21 := ghp5
      rw [hF_13 2 (by omega), show s_13 1 2 = s0 1 2 from by omega] at H21
      have G21 : s4 2 = s0 2 := hF6 2 (by omega)
      have Y21 : s4 1 3 < s0 1 2 → 0 ≤ s4 1 3 → 0 ≤ zch (s0 2) (s0 1 2) (s4 1 3) := fun h h9 => by
        have b := (IC.by_ hp5.1.1) (s4 1 3) (by omega) (by omega)
        rw [G21] at b
        rw [← zch_i (Or.inl ⟨h, rfl⟩)]
        exact b.1
      refine x_if_ne (tgt := 29) hx hb rx3 dX9_readSteps_24 (by decide) (fun c7 => ?_) (fun c7 => ?_)
      · skip
        refine x_aload_n hx hb hl 0 rfl dX9_readSteps_29 rfl ?_
        have D21 := (H21.resolve_right (fun q => by omega)).2
        refine x_get (j := 0) (v := .ref (h0 + 1)) hx hb hown hT hE hW cls_X9 (Or.inl (by decide)) (so_126 h0 g _) (by decide) rfl wq307 dX9_readSteps_30 ?_
        refine x_goi (x_runVN (As := []) hx hb hml hown hT hE hW hl.1 (Or.inl (by decide)) (so_1 h0 g _) rfl cf_X8_sign wq581 wq4 wn727 (c_X8_sign l D g T h0 s4 hW.2.1 hp5.1.1) ⟨rfl, rfl, ⟨by decide, by decide⟩, ⟨by decide, by decide⟩⟩ rfl rfl (Nat.le_of_ble_eq_true rfl) dX9_readSteps_33) hW (fun x8 s9 H locs rx8 hp10 hW => ?_)
        obtain ⟨es9, hp10⟩ := hp10
        subst es9
        have ghp10 := hp10
        have C33 : x8 = zch (s0 2) (s0 1 2) (s4 1 3) := zch_i (by have q := congrFun (hF6 2 (by omega)) (s4 1 3); omega)
        have X33 : zch (s0 2) (s0 1 2) (s4 1 3) ≠ -1 → s4 1 3 < s0 1 2 := zch_lt
        refine x_iload_n hx hb hl 2 rfl dX9_readSteps_36 rfl ?_
        refine x_icmp_ne (tgt := 42) hx hb rx8 (by decide) dX9_readSteps_37 (by decide) (fun c11 => ?_) (fun c11 => ?_)
        · skip
          refine x_iinc (lv' := [(3, .int (xJ (i3_13 + 1))), (0, .ref (h0 + 126)), (1, .int (xJ q)), (2, .int (xJ 41))]) hx hb hl 3 rfl dX9_readSteps_42 (by decide) rfl (fun ls hl => ?_)
          refine lv_goto (tgt := 13) hx hb dX9_readSteps_45 (by decide) ?_
          exact ih13 (i3_13 + 1) s4 H locs ls (by omega) hF6 hp5.1.1 (hp5.1.2.1.trans q13_1) (hp5.1.2.2.1.trans q13_2) (by omega) (D21.1.moreN (by omega) (by omega) (by omega)) (by omega) hW (lv_sub hl [1, 2, 3, 0] rfl)
        refine x_iconst hx hb dX9_readSteps_40 ?_
        rw [eQ]
        exact x_zret hx hb hr hlk hW (by omega) ⟨hF6, ⟨hp5.1.1, (hp5.1.2.1.trans q13_1), (hp5.1.2.2.1.trans q13_2), trivial⟩, Or.inl ⟨by omega, D21.1, by omega, by omega, by omega, by omega⟩⟩ dX9_readSteps_41
      refine x_iconst hx hb dX9_readSteps_27 ?_
      rw [eQ]
      exact x_zret hx hb hr hlk hW (by omega) ⟨hF6, ⟨hp5.1.1, (hp5.1.2.1.trans q13_1), (hp5.1.2.2.1.trans q13_2), trivial⟩, H21.elim (fun q => absurd q.1 (by omega)) (fun q => Or.inr ⟨by omega, q.2⟩)⟩ dX9_readSteps_28
  exact L13 ((80 - 0 : Int).toNat + 1) 0 s0 H locs ls (by decide) hF p0 k1_1 k1_2 (by omega) (hz) (Nat.lt_succ_self _) hW (lv_sub hl [2, 3, 1, 0] rfl)
set_option maxHeartbeats 4000000 in
set_option maxRecDepth 100000 in
theorem c_X9_readStepW1 (l : Launch) (D : va_G) (g : xG) (T : Nat × Nat × Nat) (h0 : Nat) (s0 : xS) (hσ : xRR s0) (q : Int) (rq : xR q) (Z : Int × Int × (Int → Int)) (st : List (Int × Int × Int)) (hq : q = 1) (hst : st.length = 1) (hat : 0 ≤ s0 1 3 ∧ s0 1 3 ≤ s0 1 2 ∧ s0 1 2 ≤ 80) (hz : zWS (s0 2) (s0 1 2) 1 Z true (s0 1 3) (s0 126 2) (s0 127) st) (p0 : IC s0) : Met l yX9_readStep (xws yX9_readStep cX9_readStep 6 (some .boolean)) { frames := 3, cells := 0, slots := 0, locals := 72 } (xP [.ref (h0 + 126), .int (xJ q)] D g T h0 s0) (xQi D g h0 (fun r τ => xFr (fun k => k = 1 ∨ k = 126 ∨ k = 127) s0 τ ∧ (((IC τ) ∧ (τ 1 1 = s0 1 1) ∧ (τ 1 2 = s0 1 2) ∧ True) ∧ ((r = 1 ∧ zWS (s0 2) (s0 1 2) 1 Z false (τ 1 3) (τ 126 2) (τ 127) st ∧ s0 1 3 + 1 ≤ τ 1 3 ∧ τ 1 3 ≤ s0 1 2 ∧ s0 126 2 < τ 126 2) ∨ (r = 0 ∧ Z.1 ≠ 0 ∧ τ 1 4 = Z.1))))) 0 0 (xA h0) := by
  refine x_met hσ (by decide) (Nat.le_of_ble_eq_true rfl) ?_
  intro p e s m args below meth c hx hb hr hml hown hT hlk hnm hE hW ls hl
  have hl : lv_has ls 6 [(0, .ref (h0 + 126)), (1, .int (xJ q))] := hl
  obtain ⟨Q, eQ⟩ : ∃ Q, Q = MQ below (xQi D g h0 (fun r τ => xFr (fun k => k = 1 ∨ k = 126 ∨ k = 127) s0 τ ∧ (((IC τ) ∧ (τ 1 1 = s0 1 1) ∧ (τ 1 2 = s0 1 2) ∧ True) ∧ ((r = 1 ∧ zWS (s0 2) (s0 1 2) 1 Z false (τ 1 3) (τ 126 2) (τ 127) st ∧ s0 1 3 + 1 ≤ τ 1 3 ∧ τ 1 3 ≤ s0 1 2 ∧ s0 126 2 < τ 126 2) ∨ (r = 0 ∧ Z.1 ≠ 0 ∧ τ 1 4 = Z.1))))) args s 0 0 (xA h0) := ⟨_, rfl⟩
  rw [← eQ]
  generalize hHe : ([] : List Loc) = locs at hW ⊢
  obtain ⟨H, eH⟩ : ∃ H, H = s.heap := ⟨_, rfl⟩
  rw [← eH] at hW ⊢
  have hF : xFr (fun k => k = 1 ∨ k = 126 ∨ k = 127) s0 s0 := xFr.rf
  have k1_1 : s0 1 1 = s0 1 1 := rfl
  have k1_2 : s0 1 2 = s0 1 2 := rfl
  have k1_3 : s0 1 3 = s0 1 3 := rfl
  have k126_2 : s0 126 2 = s0 126 2 := rfl
  refine x_aload_n hx hb hl 0 rfl dX9_readStep_0 rfl ?_
  refine x_get (j := 0) (v := .ref (h0 + 1)) hx hb hown hT hE hW cls_X9 (Or.inl (by decide)) (so_126 h0 g _) (by decide) rfl wq307 dX9_readStep_1 ?_
  refine x_getN (j := 3) (v := .int (xJ (s0 1 3))) hx hb hown hT hE hW cls_X8 (Or.inl (by decide)) (so_1 h0 g _) (by decide) rfl wn202 dX9_readStep_4 ?_
  refine x_rd hW (fun x1 ex1 rx1 => ?_)
  have fx1 : x1 = s0 1 3 := ex1.trans k1_3
  refine lv_istore_n (lv' := [(2, .int (xJ x1)), (0, .ref (h0 + 126)), (1, .int (xJ q))]) hx hb dX9_readStep_7 rfl hl (by decide) rfl (fun ls hl => ?_)
  refine x_aload_n hx hb hl 1 rfl dX9_readStep_8 rfl ?_
  refine x_get (j := 2) (v := .int (xJ (s0 126 2))) hx hb hown hT hE hW cls_X9 (Or.inl (by decide)) (so_126 h0 g _) (by decide) rfl wq309 dX9_readStep_9 ?_
  refine x_rd hW (fun x2 ex2 rx2 => ?_)
  have bx2 : 0 ≤ x2 ∧ x2 ≤ 60 := by rw [ex2]; exact IC.y p0
  have fx2 : x2 = s0 126 2 := ex2.trans k126_2
  refine lv_istore_n (lv' := [(3, .int (xJ x2)), (2, .int (xJ x1)), (0, .ref (h0 + 126)), (1, .int (xJ q))]) hx hb dX9_readStep_12 rfl hl (by decide) rfl (fun ls hl => ?_)
  refine x_iconst hx hb dX9_readStep_13 ?_
  refine lv_istore (lv' := [(4, .int (xJ 1)), (3, .int (xJ x2)), (2, .int (xJ x1)), (0, .ref (h0 + 126)), (1, .int (xJ q))]) hx hb dX9_readStep_14 hl (by decide) rfl (fun ls hl => ?_)
  refine x_aload_n hx hb hl 3 rfl dX9_readStep_16 rfl ?_
  refine x_get (j := 0) (v := .ref (h0 + 1)) hx hb hown hT hE hW cls_X9 (Or.inl (by decide)) (so_126 h0 g _) (by decide) rfl wq307 dX9_readStep_17 ?_
  refine x_goi (x_runVN (As := []) hx hb hml hown hT hE hW hl.1 (Or.inl (by decide)) (so_1 h0 g _) rfl cf_X8_sign wq581 wq4 wn727 (c_X8_sign l D g T h0 s0 hW.2.1 p0) ⟨rfl, rfl, ⟨by decide, by decide⟩, ⟨by decide, by decide⟩⟩ rfl rfl (Nat.le_of_ble_eq_true rfl) dX9_readStep_20) hW (fun x3 s4 H locs rx3 hp5 hW => ?_)
  obtain ⟨es4, hp5⟩ := hp5
  subst es4
  have ghp5 := hp5
  have C20 : x3 = zch (s0 2) (s0 1 2) (s0 1 3) := zch_i (by omega)
  have T20 := wtm_cs (zch (s0 2) (s0 1 2) (s0 1 3))
  have P20 := wp1_cs (s0 2) (s0 1 2) (s0 1 3)
  have X20 : zch (s0 2) (s0 1 2) (s0 1 3) ≠ -1 → s0 1 3 < s0 1 2 := zch_lt
  refine x_bipush hx hb dX9_readStep_23 (by decide) ?_
  have J65 : ∀ (i4_65 : Int) (s_65 : xS) (H : Heap) (locs : List Loc) (ls : Array Slot), (xR i4_65) → (xFr (fun k => k = 1 ∨ k = 126 ∨ k = 127) s0 s_65) → (IC s_65) → (s_65 1 1 = s0 1 1) → (s_65 1 2 = s0 1 2) → (s_65 126 2 = s0 126 2) → (1 ≤ i4_65 ∧ i4_65 ≤ 9) → (i4_65 = wtm (zch (s0 2) (s0 1 2) (s0 1 3)) ∧ s_65 1 3 = wp1 (s0 2) (s0 1 2) (s0 1 3)) → (s_65 1 3 ≤ s0 1 2) → (s_65 126 2 = s0 126 2 ∧ s_65 127 = s0 127) → xW D g h0 s H locs s_65 → lv_has ls 6 [(0, .ref (h0 + 126)), (1, .int (xJ q)), (2, .int (xJ x1)), (3, .int (xJ x2)), (4, .int (xJ i4_65))] → W p l e { frames := 3, cells := 0, slots := 0, locals := 72 } s m args below meth c H locs 0 0 Q (F0 m 65 ls []) := by
    intro i4_65 s_65 H locs ls ri4_65 hF_65 q65_0 q65_1 q65_2 q65_4 v65_0 v65_1 v65_2 v65_3 hW hl
    refine x_aload_n hx hb hl 0 rfl dX9_readStep_65 rfl ?_
    refine x_get (j := 0) (v := .ref (h0 + 1)) hx hb hown hT hE hW cls_X9 (Or.inl (by decide)) (so_126 h0 g _) (by decide) rfl wq307 dX9_readStep_66 ?_
    refine x_goi (x_runVN (As := []) hx hb hml hown hT hE hW hl.1 (Or.inl (by decide)) (so_1 h0 g _) rfl cf_X8_sign wq581 wq4 wn727 (c_X8_sign l D g T h0 s_65 hW.2.1 q65_0) ⟨rfl, rfl, ⟨by decide, by decide⟩, ⟨by decide, by decide⟩⟩ rfl rfl (Nat.le_of_ble_eq_true rfl) dX9_readStep_69) hW (fun x6 s7 H locs rx6 hp8 hW => ?_)
    obtain ⟨es7, hp8⟩ := hp8
    subst es7
    have ghp8 := hp8
    have C69 : x6 = zch (s0 2) (s0 1 2) (s_65 1 3) := zch_i (by have q := congrFun (hF_65 2 (by omega)) (s_65 1 3); omega)
    have X69 : zch (s0 2) (s0 1 2) (s_65 1 3) ≠ -1 → s_65 1 3 < s0 1 2 := zch_lt
    refine x_bipush hx hb dX9_readStep_72 (by decide) ?_
    refine x_icmp_ne (tgt := 166) hx hb rx6 (by decide) dX9_readStep_74 (by decide) (fun c9 => ?_) (fun c9 => ?_)
    · skip
      refine x_aload_n hx hb hl 0 rfl dX9_readStep_166 rfl ?_
      refine x_get (j := 0) (v := .ref (h0 + 1)) hx hb hown hT hE hW cls_X9 (Or.inl (by decide)) (so_126 h0 g _) (by decide) rfl wq307 dX9_readStep_167 ?_
      refine x_goi (x_runVN (As := []) hx hb hml hown hT hE hW hl.1 (Or.inl (by decide)) (so_1 h0 g _) rfl cf_X8_sign wq581 wq4 wn727 (c_X8_sign l D g T h0 s_65 hW.2.1 q65_0) ⟨rfl, rfl, ⟨by decide, by decide⟩, ⟨by decide, by decide⟩⟩ rfl rfl (Nat.le_of_ble_eq_true rfl) dX9_readStep_170) hW (fun x10 s11 H locs rx10 hp12 hW => ?_)
      obtain ⟨es11, hp12⟩ := hp12
      subst es11
      have ghp12 := hp12
      have C170 : x10 = zch (s0 2) (s0 1 2) (s_65 1 3) := zch_i (by have q := congrFun (hF_65 2 (by omega)) (s_65 1 3); omega)
      refine x_goi (x_runS (As := [.int (xJ x10)]) hx hb hml hown hT hE hW hl.1 cf_X9_stepOf wq735 wq734 (c_X9_stepOfW l D g T h0 s_65 hW.2.1 x10 rx10) ⟨rfl, rfl, ⟨by decide, by decide⟩, ⟨by decide, by decide⟩⟩ rfl rfl (Nat.le_of_ble_eq_true rfl) dX9_readStep_173) hW (fun x13 s14 H locs rx13 hp15 hW => ?_)
      obtain ⟨es14, hp15⟩ := hp15
      subst es14
      have ghp15 := hp15
      have S173 := wst_i ghp15
      rw [C170] at S173
      refine lv_istore (lv' := [(5, .int (xJ x13)), (0, .ref (h0 + 126)), (1, .int (xJ q)), (2, .int (xJ x1)), (3, .int (xJ x2)), (4, .int (xJ i4_65))]) hx hb dX9_readStep_176 hl (by decide) rfl (fun ls hl => ?_)
      refine x_iload hx hb hl 0 rfl dX9_readStep_178 ?_
      refine x_iconst hx hb dX9_readStep_180 ?_
      refine x_icmp_ne (tgt := 200) hx hb rx13 (by decide) dX9_readStep_181 (by decide) (fun c16 => ?_) (fun c16 => ?_)
      · skip
        refine x_aload_n hx hb hl 1 rfl dX9_readStep_200 rfl ?_
        refine x_get (j := 0) (v := .ref (h0 + 1)) hx hb hown hT hE hW cls_X9 (Or.inl (by decide)) (so_126 h0 g _) (by decide) rfl wq307 dX9_readStep_201 ?_
        refine lv_dup hx hb dX9_readStep_204 rfl ?_
        refine x_getN (j := 3) (v := .int (xJ (s_65 1 3))) hx hb hown hT hE hW cls_X8 (Or.inl (by decide)) (so_1 h0 g _) (by decide) rfl wn202 dX9_readStep_205 ?_
        refine x_rd hW (fun x17 ex17 rx17 => ?_)
        refine x_iconst hx hb dX9_readStep_208 ?_
        refine x_iadd hx hb dX9_readStep_209 ?_
        refine x_putN (j := 3) hx hb hown hT hE hW cls_X8 (by decide) (fun σ => so_1 h0 g σ) (by decide) (st_X8_3 h0 s_65 1 (x17 + 1)) (ln_X8_3 h0 _ _) wn202 rfl rfl rfl (by omega) dX9_readStep_210 (fun H locs s18 es18 hW => ?_)
        have q19 : IC s18 := by rw [es18]; exact IC_1 q65_0 (by omega)
        have q20 : s18 1 1 = s0 1 1 := (show s18 1 1 = s_65 1 1 from by rw [es18, xU_j _ _ (by decide)]).trans q65_1
        have q21 : s18 1 2 = s0 1 2 := (show s18 1 2 = s_65 1 2 from by rw [es18, xU_j _ _ (by decide)]).trans q65_2
        have q22 : s18 126 2 = s0 126 2 := (show s18 126 2 = s_65 126 2 from by rw [es18, xU_k _ _ _ (by omega)]).trans q65_4
        have q23 : s18 1 3 = (x17 + 1) := by rw [es18, xU_s]
        have hF24 := hF_65.put es18 (by omega)
        have Q210 : s18 126 2 = s0 126 2 ∧ s18 127 = s0 127 := by rw [es18, xU_k _ _ _ (by omega), xU_k _ _ _ (by omega)]; exact v65_3
        refine x_aload_n hx hb hl 1 rfl dX9_readStep_213 rfl ?_
        refine x_get (j := 2) (v := .int (xJ (s18 126 2))) hx hb hown hT hE hW cls_X9 (Or.inl (by decide)) (so_126 h0 g _) (by decide) rfl wq309 dX9_readStep_214 ?_
        refine x_rd hW (fun x25 ex25 rx25 => ?_)
        have bx25 : 0 ≤ x25 ∧ x25 ≤ 60 := by rw [ex25]; exact IC.y q19
        have fx25 : x25 = s0 126 2 := ex25.trans q22
        refine x_bipush hx hb dX9_readStep_217 (by decide) ?_
        refine x_icmp_lt (tgt := 233) hx hb rx25 (by decide) dX9_readStep_219 (by decide) (fun c26 => ?_) (fun c26 => ?_)
        · skip
          refine x_aload_n hx hb hl 1 rfl dX9_readStep_233 rfl ?_
          refine x_get (j := 1) (v := .ref (h0 + 127)) hx hb hown hT hE hW cls_X9 (Or.inl (by decide)) (so_126 h0 g _) (by decide) rfl wq308 dX9_readStep_234 ?_
          refine x_aload_n hx hb hl 1 rfl dX9_readStep_237 rfl ?_
          refine x_get (j := 2) (v := .int (xJ (s18 126 2))) hx hb hown hT hE hW cls_X9 (Or.inl (by decide)) (so_126 h0 g _) (by decide) rfl wq309 dX9_readStep_238 ?_
          refine x_rd hW (fun x27 ex27 rx27 => ?_)
          have bx27 : 0 ≤ x27 ∧ x27 ≤ 60 := by rw [ex27]; exact IC.y q19
          have fx27 : x27 = s0 126 2 := ex27.trans q22
          refine x_iload hx hb hl 0 rfl dX9_readStep_241 ?_
          refine x_iast hx hb hE hW (by decide) (fun σ => sa_127 h0 g σ) (by omega) (by decide) rx13 dX9_readStep_243 (fun H locs s28 es28 hW => ?_)
          have q29 : IC s28 := by rw [es28]; exact IC_o (by decide) q19
          have q30 : s28 1 1 = s0 1 1 := (show s28 1 1 = s18 1 1 from by rw [es28, xU_k _ _ _ (by omega)]).trans q20
          have q31 : s28 1 2 = s0 1 2 := (show s28 1 2 = s18 1 2 from by rw [es28, xU_k _ _ _ (by omega)]).trans q21
          have q32 : s28 126 2 = s0 126 2 := (show s28 126 2 = s18 126 2 from by rw [es28, xU_k _ _ _ (by omega)]).trans q22
          have q33 : s28 1 3 = (x17 + 1) := (show s28 1 3 = s18 1 3 from by rw [es28, xU_k _ _ _ (by omega)]).trans q23
          have hF34 := hF24.put es28 (by omega)
          have A243 : s28 127 = xud (s0 127) (s0 126 2) (1 * wst (zch (s0 2) (s0 1 2) (s_65 1 3))) ∧ s28 1 3 = s_65 1 3 + 1 := ⟨by rw [es28, xU_xud, Q210.2, show x27 = s0 126 2 from by omega, Int.one_mul, ← S173], by rw [es28, xU_k _ _ _ (by omega)]; omega⟩
          refine x_aload_n hx hb hl 1 rfl dX9_readStep_244 rfl ?_
          refine lv_dup hx hb dX9_readStep_245 rfl ?_
          refine x_get (j := 2) (v := .int (xJ (s28 126 2))) hx hb hown hT hE hW cls_X9 (Or.inl (by decide)) (so_126 h0 g _) (by decide) rfl wq309 dX9_readStep_246 ?_
          refine x_rd hW (fun x35 ex35 rx35 => ?_)
          have bx35 : 0 ≤ x35 ∧ x35 ≤ 60 := by rw [ex35]; exact IC.y q29
          have fx35 : x35 = s0 126 2 := ex35.trans q32
          refine x_iconst hx hb dX9_readStep_249 ?_
          refine x_iadd hx hb dX9_readStep_250 ?_
          refine x_put (j := 2) hx hb hown hT hE hW cls_X9 (by decide) (fun σ => so_126 h0 g σ) (by decide) (st_X9_2 h0 s28 126 (x35 + 1)) (ln_X9_2 h0 _ _) wq309 rfl rfl rfl (by omega) dX9_readStep_251 (fun H locs s36 es36 hW => ?_)
          have q37 : IC s36 := by rw [es36]; exact IC_126 q29 (by omega)
          have q38 : s36 1 1 = s0 1 1 := (show s36 1 1 = s28 1 1 from by rw [es36, xU_k _ _ _ (by omega)]).trans q30
          have q39 : s36 1 2 = s0 1 2 := (show s36 1 2 = s28 1 2 from by rw [es36, xU_k _ _ _ (by omega)]).trans q31
          have q40 : s36 126 2 = (x35 + 1) := by rw [es36, xU_s]
          have q41 : s36 1 3 = (x17 + 1) := (show s36 1 3 = s28 1 3 from by rw [es36, xU_k _ _ _ (by omega)]).trans q33
          have hF42 := hF34.put es36 (by omega)
          have A251 : s36 127 = xud (s0 127) (s0 126 2) (1 * wst (zch (s0 2) (s0 1 2) (s_65 1 3))) ∧ s36 1 3 = s_65 1 3 + 1 := by rw [es36, xU_k _ _ _ (by omega), xU_k _ _ _ (by omega)]; exact A243
          have B251 : s36 126 2 = s0 126 2 + 1 := by omega
          refine x_aload_n hx hb hl 1 rfl dX9_readStep_254 rfl ?_
          refine x_iload_n hx hb hl 4 rfl dX9_readStep_255 rfl ?_
          refine x_iload hx hb hl 5 rfl dX9_readStep_256 ?_
          refine x_iconst hx hb dX9_readStep_258 ?_
          refine x_isub hx hb dX9_readStep_259 ?_
          refine x_goi (x_runV (As := [.int (xJ x2), .int (xJ (i4_65 - 1))]) hx hb hml hown hT hE hW hl.1 (Or.inl (by decide)) (so_126 h0 g _) rfl cf_X9_repeat wq732 wq31 wq730 (c_X9_repeatW l D g T h0 s36 hW.2.1 x2 rx2 (i4_65 - 1) (by omega) (by have y := IC.y q37; omega) (by omega) q37) ⟨rfl, rfl, ⟨by decide, by decide⟩, ⟨by decide, by decide⟩⟩ rfl rfl (Nat.le_of_ble_eq_true rfl) dX9_readStep_260) hW (fun x43 s44 H locs rx43 hp45 hW => ?_)
          obtain ⟨fs44, hp45⟩ := hp45
          have hF46 := hF42.call fs44 (fun k h => by omega)
          have q47 : s44 1 1 = s0 1 1 := (congrFun (fs44 _ (by omega)) _).trans q38
          have q48 : s44 1 2 = s0 1 2 := (congrFun (fs44 _ (by omega)) _).trans q39
          have q49 : s44 1 3 = (x17 + 1) := (congrFun (fs44 _ (by omega)) _).trans q41
          have ghp45 := hp45.2
          have R260 := ghp45
          rw [A251.1, B251, show x2 = s0 126 2 from by omega, show s0 126 2 + 1 - s0 126 2 = 1 from by omega, Int.mul_one] at R260
          have E260 : s44 1 3 = s_65 1 3 + 1 := (congrFun (fs44 1 (by omega)) 3).trans A251.2
          refine x_if_ne (tgt := 279) hx hb rx43 dX9_readStep_263 (by decide) (fun c50 => ?_) (fun c50 => ?_)
          · skip
            refine x_iconst hx hb dX9_readStep_279 ?_
            refine lv_goto (tgt := 284) hx hb dX9_readStep_280 (by decide) ?_
            rw [eQ]
            exact x_zret hx hb hr hlk hW (by omega) ⟨hF46, ⟨hp45.1.1, q47, q48, trivial⟩, by first | exact Or.inl ⟨by omega, hz.step (by omega) v65_1.2 v65_1.1 (by omega) (by omega) (by omega) (by omega) (by omega) (R260.resolve_right (fun q => by omega)).2.2.2, by omega, by omega, by omega⟩ | (have z := hz.six (by omega) v65_1.2 v65_1.1 (by omega) (by omega) (by omega); rw [z]; exact Or.inr ⟨by omega, (by show (-6000 - _ : Int) ≠ 0; omega), (by show _ = (-6000 - _ : Int); omega)⟩)⟩ dX9_readStep_284
          refine x_aload_n hx hb hl 1 rfl dX9_readStep_266 rfl ?_
          refine x_get (j := 0) (v := .ref (h0 + 1)) hx hb hown hT hE hW cls_X9 (Or.inl (by decide)) (so_126 h0 g _) (by decide) rfl wq307 dX9_readStep_267 ?_
          refine x_bipush hx hb dX9_readStep_270 (by decide) ?_
          refine x_iload_n hx hb hl 3 rfl dX9_readStep_272 rfl ?_
          refine x_goi (x_runVN (As := [.int (xJ 6), .int (xJ x1)]) hx hb hml hown hT hE hW hl.1 (Or.inl (by decide)) (so_1 h0 g _) rfl cf_X8_fails wq588 wq5 wn728 (c_X8_failsM l D g T h0 s44 hW.2.1 6 (by decide) x1 rx1 (by omega) hp45.1.1) ⟨rfl, rfl, ⟨by decide, by decide⟩, ⟨by decide, by decide⟩⟩ rfl rfl (Nat.le_of_ble_eq_true rfl) dX9_readStep_273) hW (fun x51 s52 H locs rx51 hp53 hW => ?_)
          obtain ⟨fs52, hp53⟩ := hp53
          have hF54 := hF46.call fs52 (fun k h => by omega)
          have ghp53 := hp53.2
          refine x_if_eq (tgt := 283) hx hb rx51 dX9_readStep_276 (by decide) (fun c55 => ?_) (fun c55 => False.elim (by omega))
          refine x_iconst hx hb dX9_readStep_283 ?_
          rw [eQ]
          exact x_zret hx hb hr hlk hW (by omega) ⟨hF54, ⟨hp53.1.1, (hp53.1.2.1.trans q47), (hp53.1.2.2.1.trans q48), trivial⟩, by first | exact Or.inl ⟨by omega, hz.step (by omega) v65_1.2 v65_1.1 (by omega) (by omega) (by omega) (by omega) (by omega) (R260.resolve_right (fun q => by omega)).2.2.2, by omega, by omega, by omega⟩ | (have z := hz.six (by omega) v65_1.2 v65_1.1 (by omega) (by omega) (by omega); rw [z]; exact Or.inr ⟨by omega, (by show (-6000 - _ : Int) ≠ 0; omega), (by show _ = (-6000 - _ : Int); omega)⟩)⟩ dX9_readStep_284
        refine x_aload_n hx hb hl 1 rfl dX9_readStep_222 rfl ?_
        refine x_get (j := 0) (v := .ref (h0 + 1)) hx hb hown hT hE hW cls_X9 (Or.inl (by decide)) (so_126 h0 g _) (by decide) rfl wq307 dX9_readStep_223 ?_
        refine x_bipush hx hb dX9_readStep_226 (by decide) ?_
        refine x_iload_n hx hb hl 3 rfl dX9_readStep_228 rfl ?_
        refine x_goi (x_runVN (As := [.int (xJ 6), .int (xJ x1)]) hx hb hml hown hT hE hW hl.1 (Or.inl (by decide)) (so_1 h0 g _) rfl cf_X8_fails wq588 wq5 wn728 (c_X8_failsM l D g T h0 s18 hW.2.1 6 (by decide) x1 rx1 (by omega) q19) ⟨rfl, rfl, ⟨by decide, by decide⟩, ⟨by decide, by decide⟩⟩ rfl rfl (Nat.le_of_ble_eq_true rfl) dX9_readStep_229) hW (fun x56 s57 H locs rx56 hp58 hW => ?_)
        obtain ⟨fs57, hp58⟩ := hp58
        have hF59 := hF24.call fs57 (fun k h => by omega)
        have q60 : s57 126 2 = s0 126 2 := (congrFun (fs57 _ (by omega)) _).trans q22
        have ghp58 := hp58.2
        rw [eQ]
        exact x_zret hx hb hr hlk hW (by omega) ⟨hF59, ⟨hp58.1.1, (hp58.1.2.1.trans q20), (hp58.1.2.2.1.trans q21), trivial⟩, by
            have z := hz.six (by omega) v65_1.2 v65_1.1 (by omega) (by omega) (by omega)
            rw [z]
            exact Or.inr ⟨by omega, (by show (-6000 - _ : Int) ≠ 0; omega), (by show _ = (-6000 - _ : Int); omega)⟩⟩ dX9_readStep_232
      refine x_aload_n hx hb hl 1 rfl dX9_readStep_184 rfl ?_
      refine x_get (j := 0) (v := .ref (h0 + 1)) hx hb hown hT hE hW cls_X9 (Or.inl (by decide)) (so_126 h0 g _) (by decide) rfl wq307 dX9_readStep_185 ?_
      refine x_iconst hx hb dX9_readStep_188 ?_
      refine x_aload_n hx hb hl 1 rfl dX9_readStep_189 rfl ?_
      refine x_get (j := 0) (v := .ref (h0 + 1)) hx hb hown hT hE hW cls_X9 (Or.inl (by decide)) (so_126 h0 g _) (by decide) rfl wq307 dX9_readStep_190 ?_
      refine x_getN (j := 3) (v := .int (xJ (s_65 1 3))) hx hb hown hT hE hW cls_X8 (Or.inl (by decide)) (so_1 h0 g _) (by decide) rfl wn202 dX9_readStep_193 ?_
      refine x_rd hW (fun x61 ex61 rx61 => ?_)
      refine x_goi (x_runVN (As := [.int (xJ 1), .int (xJ x61)]) hx hb hml hown hT hE hW hl.1 (Or.inl (by decide)) (so_1 h0 g _) rfl cf_X8_fails wq588 wq5 wn728 (c_X8_failsM l D g T h0 s_65 hW.2.1 1 (by decide) x61 rx61 (by omega) q65_0) ⟨rfl, rfl, ⟨by decide, by decide⟩, ⟨by decide, by decide⟩⟩ rfl rfl (Nat.le_of_ble_eq_true rfl) dX9_readStep_196) hW (fun x62 s63 H locs rx62 hp64 hW => ?_)
      obtain ⟨fs63, hp64⟩ := hp64
      have hF65 := hF_65.call fs63 (fun k h => by omega)
      have q66 : s63 126 2 = s0 126 2 := (congrFun (fs63 _ (by omega)) _).trans q65_4
      have ghp64 := hp64.2
      rw [eQ]
      exact x_zret hx hb hr hlk hW (by omega) ⟨hF65, ⟨hp64.1.1, (hp64.1.2.1.trans q65_1), (hp64.1.2.2.1.trans q65_2), trivial⟩, by
          have z := hz.one (by omega) v65_1.2 (by omega) (by omega)
          rw [z]
          exact Or.inr ⟨by omega, (by show (-1000 - _ : Int) ≠ 0; omega), (by show _ = (-1000 - _ : Int); omega)⟩⟩ dX9_readStep_199
    refine x_iload_n hx hb hl 1 rfl dX9_readStep_77 rfl ?_
    refine x_iconst hx hb dX9_readStep_78 ?_
    refine x_icmp_lt (tgt := 98) hx hb rq (by decide) dX9_readStep_79 (by decide) (fun c67 => ?_) (fun c67 => False.elim (by omega))
    refine x_aload_n hx hb hl 0 rfl dX9_readStep_98 rfl ?_
    refine x_get (j := 0) (v := .ref (h0 + 1)) hx hb hown hT hE hW cls_X9 (Or.inl (by decide)) (so_126 h0 g _) (by decide) rfl wq307 dX9_readStep_99 ?_
    refine lv_dup hx hb dX9_readStep_102 rfl ?_
    refine x_getN (j := 3) (v := .int (xJ (s_65 1 3))) hx hb hown hT hE hW cls_X8 (Or.inl (by decide)) (so_1 h0 g _) (by decide) rfl wn202 dX9_readStep_103 ?_
    refine x_rd hW (fun x68 ex68 rx68 => ?_)
    refine x_iconst hx hb dX9_readStep_106 ?_
    refine x_iadd hx hb dX9_readStep_107 ?_
    refine x_putN (j := 3) hx hb hown hT hE hW cls_X8 (by decide) (fun σ => so_1 h0 g σ) (by decide) (st_X8_3 h0 s_65 1 (x68 + 1)) (ln_X8_3 h0 _ _) wn202 rfl rfl rfl (by omega) dX9_readStep_108 (fun H locs s69 es69 hW => ?_)
    have q70 : IC s69 := by rw [es69]; exact IC_1 q65_0 (by omega)
    have q71 : s69 1 1 = s0 1 1 := (show s69 1 1 = s_65 1 1 from by rw [es69, xU_j _ _ (by decide)]).trans q65_1
    have q72 : s69 1 2 = s0 1 2 := (show s69 1 2 = s_65 1 2 from by rw [es69, xU_j _ _ (by decide)]).trans q65_2
    have q73 : s69 126 2 = s0 126 2 := (show s69 126 2 = s_65 126 2 from by rw [es69, xU_k _ _ _ (by omega)]).trans q65_4
    have q74 : s69 1 3 = (x68 + 1) := by rw [es69, xU_s]
    have hF75 := hF_65.put es69 (by omega)
    have Q108 : s69 126 2 = s0 126 2 ∧ s69 127 = s0 127 := by rw [es69, xU_k _ _ _ (by omega), xU_k _ _ _ (by omega)]; exact v65_3
    have G108 : s69 2 = s0 2 := hF75 2 (by omega)
    have N108 : s69 1 2 = s0 1 2 := q72
    have O108 : zWS (s69 2) (s69 1 2) 1 Z true (s69 1 3) (s69 126 2) (s69 127) ((s0 1 3, s0 126 2, i4_65) :: st) := by
      rw [G108, N108, Q108.1, Q108.2]
      exact hz.open_ (by omega) v65_1.2 v65_1.1 (by omega) (by omega) (by omega)
    refine x_aload_n hx hb hl 0 rfl dX9_readStep_111 rfl ?_
    refine x_iload_n hx hb hl 1 rfl dX9_readStep_112 rfl ?_
    refine x_iconst hx hb dX9_readStep_113 ?_
    refine x_iadd hx hb dX9_readStep_114 ?_
    refine x_goi (x_runV (As := [.int (xJ (q + 1))]) hx hb hml hown hT hE hW hl.1 (Or.inl (by decide)) (so_126 h0 g _) rfl cf_X9_readSteps wq721 wq29 wq719 (c_X9_readStepsW2 l D g T h0 s69 hW.2.1 (q + 1) (by omega) Z ((s0 1 3, s0 126 2, i4_65) :: st) (by omega) (by show st.length + 1 = _; omega) (by omega) (O108) q70) ⟨rfl, rfl, ⟨by decide, by decide⟩, ⟨by decide, by decide⟩⟩ rfl rfl (Nat.le_of_ble_eq_true rfl) dX9_readStep_115) hW (fun x76 s77 H locs rx76 hp78 hW => ?_)
    obtain ⟨fs77, hp78⟩ := hp78
    have hF79 := hF75.call fs77 (fun k h => by omega)
    have ghp78 := hp78.2
    have H115 := ghp78
    rw [G108, N108] at H115
    obtain ⟨z9, ez9⟩ : ∃ z : Int, z = s77 126 2 := ⟨_, rfl⟩
    obtain ⟨K9, eK9⟩ : ∃ K, K = s77 127 := ⟨_, rfl⟩
    obtain ⟨p9, ep9⟩ : ∃ p : Int, p = s77 1 3 := ⟨_, rfl⟩
    rw [← ez9, ← eK9, ← ep9] at H115
    have X115 : zch (s0 2) (s0 1 2) p9 ≠ -1 → p9 < s0 1 2 := zch_lt
    have G115 : s77 2 = s0 2 := hF79 2 (by omega)
    have N115 : s77 1 2 = s0 1 2 := (hp78.1.2.2.1.trans q72)
    refine x_if_eq (tgt := 133) hx hb rx76 dX9_readStep_118 (by decide) (fun c80 => ?_) (fun c80 => ?_)
    · skip
      refine x_iconst hx hb dX9_readStep_133 ?_
      rw [eQ]
      exact x_zret hx hb hr hlk hW (by omega) ⟨hF79, ⟨hp78.1.1, (hp78.1.2.1.trans q71), (hp78.1.2.2.1.trans q72), trivial⟩, Or.inr ⟨by omega, (H115.resolve_left (fun q => by omega)).2.1, by omega⟩⟩ dX9_readStep_134
    refine x_aload_n hx hb hl 0 rfl dX9_readStep_121 rfl ?_
    refine x_get (j := 0) (v := .ref (h0 + 1)) hx hb hown hT hE hW cls_X9 (Or.inl (by decide)) (so_126 h0 g _) (by decide) rfl wq307 dX9_readStep_122 ?_
    refine x_bipush hx hb dX9_readStep_125 (by decide) ?_
    refine x_goi (x_runVN (As := [.int (xJ 41)]) hx hb hml hown hT hE hW hl.1 (Or.inl (by decide)) (so_1 h0 g _) rfl cf_X8_passes wq598 wq6 wn729 (c_X8_passesM l D g T h0 s77 hW.2.1 41 (by decide) (by omega) (by omega) hp78.1.1) ⟨rfl, rfl, ⟨by decide, by decide⟩, ⟨by decide, by decide⟩⟩ rfl rfl (Nat.le_of_ble_eq_true rfl) dX9_readStep_127) hW (fun x81 s82 H locs rx81 hp83 hW => ?_)
    obtain ⟨fs82, hp83⟩ := hp83
    have hF84 := hF79.call fs82 (fun k h => by omega)
    have ghp83 := hp83.2
    have P127 := ghp83
    rw [G115, N115, ← ep9] at P127
    have Q127 : s82 126 2 = z9 ∧ s82 127 = K9 := by rw [fs82 126 (by omega), fs82 127 (by omega)]; exact ⟨ez9.symm, eK9.symm⟩
    have E127 : s82 1 3 = p9 + 1 := by omega
    refine x_if_ne (tgt := 135) hx hb rx81 dX9_readStep_130 (by decide) (fun c85 => ?_) (fun c85 => False.elim (by omega))
    refine x_aload_n hx hb hl 0 rfl dX9_readStep_135 rfl ?_
    refine x_iload_n hx hb hl 3 rfl dX9_readStep_136 rfl ?_
    refine x_iload hx hb hl 4 rfl dX9_readStep_137 ?_
    refine x_iconst hx hb dX9_readStep_139 ?_
    refine x_isub hx hb dX9_readStep_140 ?_
    refine x_goi (x_runV (As := [.int (xJ x2), .int (xJ (i4_65 - 1))]) hx hb hml hown hT hE hW hl.1 (Or.inl (by decide)) (so_126 h0 g _) rfl cf_X9_repeat wq732 wq31 wq730 (c_X9_repeatW l D g T h0 s82 hW.2.1 x2 rx2 (i4_65 - 1) (by omega) (by have y := IC.y hp83.1.1; omega) (by omega) hp83.1.1) ⟨rfl, rfl, ⟨by decide, by decide⟩, ⟨by decide, by decide⟩⟩ rfl rfl (Nat.le_of_ble_eq_true rfl) dX9_readStep_141) hW (fun x86 s87 H locs rx86 hp88 hW => ?_)
    obtain ⟨fs87, hp88⟩ := hp88
    have hF89 := hF84.call fs87 (fun k h => by omega)
    have q90 : s87 1 1 = s0 1 1 := (congrFun (fs87 _ (by omega)) _).trans (hp83.1.2.1.trans (hp78.1.2.1.trans q71))
    have q91 : s87 1 2 = s0 1 2 := (congrFun (fs87 _ (by omega)) _).trans (hp83.1.2.2.1.trans (hp78.1.2.2.1.trans q72))
    have ghp88 := hp88.2
    have R141 := ghp88
    rw [Q127.1, Q127.2, show x2 = s0 126 2 from by omega] at R141
    have E141 : s87 1 3 = p9 + 1 := (congrFun (fs87 1 (by omega)) 3).trans E127
    have V141 := (H115.resolve_right (fun q => by omega)).2
    have m141 : 0 ≤ (i4_65 - 1) * (z9 - s0 126 2) := Int.mul_nonneg (by omega) (by omega)
    refine x_if_ne (tgt := 160) hx hb rx86 dX9_readStep_144 (by decide) (fun c92 => ?_) (fun c92 => ?_)
    · skip
      refine x_iconst hx hb dX9_readStep_160 ?_
      refine lv_goto (tgt := 165) hx hb dX9_readStep_161 (by decide) ?_
      rw [eQ]
      exact x_zret hx hb hr hlk hW (by omega) ⟨hF89, ⟨hp88.1.1, q90, q91, trivial⟩, by first | (have z := V141.1.pop6 (by omega) (by omega) (by omega); rw [z]; exact Or.inr ⟨by omega, (by show (-6000 - _ : Int) ≠ 0; omega), (by show _ = (-6000 - _ : Int); omega)⟩) | exact Or.inl ⟨by omega, V141.1.pop (by omega) (by omega) (by omega) (by omega) (by omega) (R141.resolve_right (fun q => by omega)).2.2.2, by omega, by omega, by omega⟩⟩ dX9_readStep_165
    refine x_aload_n hx hb hl 0 rfl dX9_readStep_147 rfl ?_
    refine x_get (j := 0) (v := .ref (h0 + 1)) hx hb hown hT hE hW cls_X9 (Or.inl (by decide)) (so_126 h0 g _) (by decide) rfl wq307 dX9_readStep_148 ?_
    refine x_bipush hx hb dX9_readStep_151 (by decide) ?_
    refine x_iload_n hx hb hl 2 rfl dX9_readStep_153 rfl ?_
    refine x_goi (x_runVN (As := [.int (xJ 6), .int (xJ x1)]) hx hb hml hown hT hE hW hl.1 (Or.inl (by decide)) (so_1 h0 g _) rfl cf_X8_fails wq588 wq5 wn728 (c_X8_failsM l D g T h0 s87 hW.2.1 6 (by decide) x1 rx1 (by omega) hp88.1.1) ⟨rfl, rfl, ⟨by decide, by decide⟩, ⟨by decide, by decide⟩⟩ rfl rfl (Nat.le_of_ble_eq_true rfl) dX9_readStep_154) hW (fun x93 s94 H locs rx93 hp95 hW => ?_)
    obtain ⟨fs94, hp95⟩ := hp95
    have hF96 := hF89.call fs94 (fun k h => by omega)
    have ghp95 := hp95.2
    refine x_if_eq (tgt := 164) hx hb rx93 dX9_readStep_157 (by decide) (fun c97 => ?_) (fun c97 => False.elim (by omega))
    refine x_iconst hx hb dX9_readStep_164 ?_
    rw [eQ]
    exact x_zret hx hb hr hlk hW (by omega) ⟨hF96, ⟨hp95.1.1, (hp95.1.2.1.trans q90), (hp95.1.2.2.1.trans q91), trivial⟩, by first | (have z := V141.1.pop6 (by omega) (by omega) (by omega); rw [z]; exact Or.inr ⟨by omega, (by show (-6000 - _ : Int) ≠ 0; omega), (by show _ = (-6000 - _ : Int); omega)⟩) | exact Or.inl ⟨by omega, V141.1.pop (by omega) (by omega) (by omega) (by omega) (by omega) (R141.resolve_right (fun q => by omega)).2.2.2, by omega, by omega, by omega⟩⟩ dX9_readStep_165
  refine x_icmp_lt (tgt := 65) hx hb rx3 (by decide) dX9_readStep_25 (by decide) (fun c98 => ?_) (fun c98 => ?_)
  · skip
    exact J65 1 s0 H locs ls (by decide) hF p0 k1_1 k1_2 k126_2 (by omega) (by omega) (by omega) (by first | exact ⟨rfl, rfl⟩ | (rw [es0, xU_k _ _ _ (by omega), xU_k _ _ _ (by omega)]; exact ⟨rfl, rfl⟩)) hW (lv_sub hl [3, 4, 2, 1, 0] rfl)
  refine x_aload_n hx hb hl 3 rfl dX9_readStep_28 rfl ?_
  refine x_get (j := 0) (v := .ref (h0 + 1)) hx hb hown hT hE hW cls_X9 (Or.inl (by decide)) (so_126 h0 g _) (by decide) rfl wq307 dX9_readStep_29 ?_
  refine x_goi (x_runVN (As := []) hx hb hml hown hT hE hW hl.1 (Or.inl (by decide)) (so_1 h0 g _) rfl cf_X8_sign wq581 wq4 wn727 (c_X8_sign l D g T h0 s0 hW.2.1 p0) ⟨rfl, rfl, ⟨by decide, by decide⟩, ⟨by decide, by decide⟩⟩ rfl rfl (Nat.le_of_ble_eq_true rfl) dX9_readStep_32) hW (fun x99 s100 H locs rx99 hp101 hW => ?_)
  obtain ⟨es100, hp101⟩ := hp101
  subst es100
  have ghp101 := hp101
  have C32 : x99 = zch (s0 2) (s0 1 2) (s0 1 3) := zch_i (by omega)
  refine x_bipush hx hb dX9_readStep_35 (by decide) ?_
  refine x_icmp_gt (tgt := 65) hx hb rx99 (by decide) dX9_readStep_37 (by decide) (fun c102 => ?_) (fun c102 => ?_)
  · skip
    exact J65 1 s0 H locs ls (by decide) hF p0 k1_1 k1_2 k126_2 (by omega) (by omega) (by omega) (by first | exact ⟨rfl, rfl⟩ | (rw [es0, xU_k _ _ _ (by omega), xU_k _ _ _ (by omega)]; exact ⟨rfl, rfl⟩)) hW (lv_sub hl [3, 4, 2, 1, 0] rfl)
  refine x_aload_n hx hb hl 3 rfl dX9_readStep_40 rfl ?_
  refine x_get (j := 0) (v := .ref (h0 + 1)) hx hb hown hT hE hW cls_X9 (Or.inl (by decide)) (so_126 h0 g _) (by decide) rfl wq307 dX9_readStep_41 ?_
  refine x_goi (x_runVN (As := []) hx hb hml hown hT hE hW hl.1 (Or.inl (by decide)) (so_1 h0 g _) rfl cf_X8_sign wq581 wq4 wn727 (c_X8_sign l D g T h0 s0 hW.2.1 p0) ⟨rfl, rfl, ⟨by decide, by decide⟩, ⟨by decide, by decide⟩⟩ rfl rfl (Nat.le_of_ble_eq_true rfl) dX9_readStep_44) hW (fun x103 s104 H locs rx103 hp105 hW => ?_)
  obtain ⟨es104, hp105⟩ := hp105
  subst es104
  have ghp105 := hp105
  have C44 : x103 = zch (s0 2) (s0 1 2) (s0 1 3) := zch_i (by omega)
  refine x_bipush hx hb dX9_readStep_47 (by decide) ?_
  refine x_isub hx hb dX9_readStep_49 ?_
  refine x_nm (fun x106 ex106 => ?_)
  refine lv_istore (lv' := [(4, .int (xJ x106)), (3, .int (xJ x2)), (2, .int (xJ x1)), (0, .ref (h0 + 126)), (1, .int (xJ q))]) hx hb dX9_readStep_50 hl (by decide) rfl (fun ls hl => ?_)
  refine x_aload_n hx hb hl 3 rfl dX9_readStep_52 rfl ?_
  refine x_get (j := 0) (v := .ref (h0 + 1)) hx hb hown hT hE hW cls_X9 (Or.inl (by decide)) (so_126 h0 g _) (by decide) rfl wq307 dX9_readStep_53 ?_
  refine lv_dup hx hb dX9_readStep_56 rfl ?_
  refine x_getN (j := 3) (v := .int (xJ (s0 1 3))) hx hb hown hT hE hW cls_X8 (Or.inl (by decide)) (so_1 h0 g _) (by decide) rfl wn202 dX9_readStep_57 ?_
  refine x_rd hW (fun x107 ex107 rx107 => ?_)
  have fx107 : x107 = s0 1 3 := ex107.trans k1_3
  refine x_iconst hx hb dX9_readStep_60 ?_
  refine x_iadd hx hb dX9_readStep_61 ?_
  refine x_putN (j := 3) hx hb hown hT hE hW cls_X8 (by decide) (fun σ => so_1 h0 g σ) (by decide) (st_X8_3 h0 s0 1 (x107 + 1)) (ln_X8_3 h0 _ _) wn202 rfl rfl rfl (by omega) dX9_readStep_62 (fun H locs s108 es108 hW => ?_)
  have q109 : IC s108 := by rw [es108]; exact IC_1 p0 (by omega)
  have q110 : s108 1 1 = s0 1 1 := (show s108 1 1 = s0 1 1 from by rw [es108, xU_j _ _ (by decide)]).trans k1_1
  have q111 : s108 1 2 = s0 1 2 := (show s108 1 2 = s0 1 2 from by rw [es108, xU_j _ _ (by decide)]).trans k1_2
  have q112 : s108 1 3 = (x107 + 1) := by rw [es108, xU_s]
  have q113 : s108 126 2 = s0 126 2 := (show s108 126 2 = s0 126 2 from by rw [es108, xU_k _ _ _ (by omega)]).trans k126_2
  have hF114 := hF.put es108 (by omega)
  exact J65 x106 s108 H locs ls (by omega) hF114 q109 q110 q111 q113 (by omega) (by omega) (by omega) (by first | exact ⟨rfl, rfl⟩ | (rw [es108, xU_k _ _ _ (by omega), xU_k _ _ _ (by omega)]; exact ⟨rfl, rfl⟩)) hW (lv_sub hl [3, 4, 2, 1, 0] rfl)
set_option maxHeartbeats 4000000 in
set_option maxRecDepth 100000 in
theorem c_X9_readStepsW1 (l : Launch) (D : va_G) (g : xG) (T : Nat × Nat × Nat) (h0 : Nat) (s0 : xS) (hσ : xRR s0) (q : Int) (rq : xR q) (Z : Int × Int × (Int → Int)) (st : List (Int × Int × Int)) (hq : q = 1) (hst : st.length = 1) (hat : 1 ≤ s0 1 3 ∧ s0 1 3 ≤ s0 1 2 ∧ s0 1 2 ≤ 80) (hz : zWS (s0 2) (s0 1 2) 1 Z true (s0 1 3) (s0 126 2) (s0 127) st) (p0 : IC s0) : Met l yX9_readSteps (xws yX9_readSteps cX9_readSteps 4 (some .boolean)) { frames := 4, cells := 0, slots := 0, locals := 97 } (xP [.ref (h0 + 126), .int (xJ q)] D g T h0 s0) (xQi D g h0 (fun r τ => xFr (fun k => k = 1 ∨ k = 126 ∨ k = 127) s0 τ ∧ (((IC τ) ∧ (τ 1 1 = s0 1 1) ∧ (τ 1 2 = s0 1 2) ∧ True) ∧ ((r = 1 ∧ zWS (s0 2) (s0 1 2) 1 Z false (τ 1 3) (τ 126 2) (τ 127) st ∧ s0 1 3 + 1 ≤ τ 1 3 ∧ τ 1 3 ≤ s0 1 2 ∧ s0 126 2 < τ 126 2 ∧ zch (s0 2) (s0 1 2) (τ 1 3) = 41) ∨ (r = 0 ∧ Z.1 ≠ 0 ∧ τ 1 4 = Z.1))))) 0 0 (xA h0) := by
  refine x_met hσ (by decide) (Nat.le_of_ble_eq_true rfl) ?_
  intro p e s m args below meth c hx hb hr hml hown hT hlk hnm hE hW ls hl
  have hl : lv_has ls 4 [(0, .ref (h0 + 126)), (1, .int (xJ q))] := hl
  obtain ⟨Q, eQ⟩ : ∃ Q, Q = MQ below (xQi D g h0 (fun r τ => xFr (fun k => k = 1 ∨ k = 126 ∨ k = 127) s0 τ ∧ (((IC τ) ∧ (τ 1 1 = s0 1 1) ∧ (τ 1 2 = s0 1 2) ∧ True) ∧ ((r = 1 ∧ zWS (s0 2) (s0 1 2) 1 Z false (τ 1 3) (τ 126 2) (τ 127) st ∧ s0 1 3 + 1 ≤ τ 1 3 ∧ τ 1 3 ≤ s0 1 2 ∧ s0 126 2 < τ 126 2 ∧ zch (s0 2) (s0 1 2) (τ 1 3) = 41) ∨ (r = 0 ∧ Z.1 ≠ 0 ∧ τ 1 4 = Z.1))))) args s 0 0 (xA h0) := ⟨_, rfl⟩
  rw [← eQ]
  generalize hHe : ([] : List Loc) = locs at hW ⊢
  obtain ⟨H, eH⟩ : ∃ H, H = s.heap := ⟨_, rfl⟩
  rw [← eH] at hW ⊢
  have hF : xFr (fun k => k = 1 ∨ k = 126 ∨ k = 127) s0 s0 := xFr.rf
  have k1_1 : s0 1 1 = s0 1 1 := rfl
  have k1_2 : s0 1 2 = s0 1 2 := rfl
  refine x_iload_n hx hb hl 1 rfl dX9_readSteps_0 rfl ?_
  refine x_if_ne (tgt := 8) hx hb rq dX9_readSteps_1 (by decide) (fun c1 => ?_) (fun c1 => False.elim (by omega))
  refine x_bipush hx hb dX9_readSteps_8 (by decide) ?_
  refine lv_istore_n (lv' := [(2, .int (xJ 41)), (0, .ref (h0 + 126)), (1, .int (xJ q))]) hx hb dX9_readSteps_10 rfl hl (by decide) rfl (fun ls hl => ?_)
  refine x_iconst hx hb dX9_readSteps_11 ?_
  refine lv_istore_n (lv' := [(3, .int (xJ 0)), (2, .int (xJ 41)), (0, .ref (h0 + 126)), (1, .int (xJ q))]) hx hb dX9_readSteps_12 rfl hl (by decide) rfl (fun ls hl => ?_)
  have L13 : ∀ (fu : Nat) (i3_13 : Int) (s_13 : xS) (H : Heap) (locs : List Loc) (ls : Array Slot), (xR i3_13) → (xFr (fun k => k = 1 ∨ k = 126 ∨ k = 127) s0 s_13) → (IC s_13) → (s_13 1 1 = s0 1 1) → (s_13 1 2 = s0 1 2) → (0 ≤ i3_13 ∧ i3_13 ≤ s_13 1 3 - s0 1 3 ∧ s_13 1 3 ≤ s0 1 2 ∧ s0 126 2 + i3_13 ≤ s_13 126 2) → (zWS (s0 2) (s0 1 2) 1 Z true (s_13 1 3) (s_13 126 2) (s_13 127) st) → (80 - i3_13).toNat < fu → xW D g h0 s H locs s_13 → lv_has ls 4 [(0, .ref (h0 + 126)), (1, .int (xJ q)), (2, .int (xJ 41)), (3, .int (xJ i3_13))] → W p l e { frames := 4, cells := 0, slots := 0, locals := 97 } s m args below meth c H locs 0 0 Q (F0 m 13 ls []) := by
    intro fu
    induction fu with
    | zero => intro i3_13 s_13 H locs ls ri3_13 hF_13 q13_0 q13_1 q13_2 v13_0 v13_1 hm; exact absurd hm (Nat.not_lt_zero _)
    | succ fu ih13 =>
      intro i3_13 s_13 H locs ls ri3_13 hF_13 q13_0 q13_1 q13_2 v13_0 v13_1 hm hW hl
      refine x_iload_n hx hb hl 3 rfl dX9_readSteps_13 rfl ?_
      refine x_bipush hx hb dX9_readSteps_14 (by decide) ?_
      refine x_icmp_ge (tgt := 48) hx hb ri3_13 (by decide) dX9_readSteps_16 (by decide) (fun c2 => False.elim (by omega)) (fun c2 => ?_)
      refine x_aload_n hx hb hl 0 rfl dX9_readSteps_19 rfl ?_
      refine x_iload_n hx hb hl 1 rfl dX9_readSteps_20 rfl ?_
      refine x_goi (x_runV (As := [.int (xJ q)]) hx hb hml hown hT hE hW hl.1 (Or.inl (by decide)) (so_126 h0 g _) rfl cf_X9_readStep wq725 wq30 wq723 (c_X9_readStepW1 l D g T h0 s_13 hW.2.1 q rq Z st (by omega) (hst) (by omega) (by rw [hF_13 2 (by omega), show s_13 1 2 = s0 1 2 from by omega]; exact v13_1) q13_0) ⟨rfl, rfl, ⟨by decide, by decide⟩, ⟨by decide, by decide⟩⟩ rfl rfl (Nat.le_of_ble_eq_true rfl) dX9_readSteps_21) hW (fun x3 s4 H locs rx3 hp5 hW => ?_)
      obtain ⟨fs4, hp5⟩ := hp5
      have hF6 := hF_13.call fs4 (fun k h => by omega)
      have ghp5 := hp5.2
      have H21 := ghp5
      rw [hF_13 2 (by omega), show s_13 1 2 = s0 1 2 from by omega] at H21
      have G21 : s4 2 = s0 2 := hF6 2 (by omega)
      have Y21 : s4 1 3 < s0 1 2 → 0 ≤ s4 1 3 → 0 ≤ zch (s0 2) (s0 1 2) (s4 1 3) := fun h h9 => by
        have b := (IC.by_ hp5.1.1) (s4 1 3) (by omega) (by omega)
        rw [G21] at b
        rw [← zch_i (Or.inl ⟨h, rfl⟩)]
        exact b.1
      refine x_if_ne (tgt := 29) hx hb rx3 dX9_readSteps_24 (by decide) (fun c7 => ?_) (fun c7 => ?_)
      · skip
        refine x_aload_n hx hb hl 0 rfl dX9_readSteps_29 rfl ?_
        have D21 := (H21.resolve_right (fun q => by omega)).2
        refine x_get (j := 0) (v := .ref (h0 + 1)) hx hb hown hT hE hW cls_X9 (Or.inl (by decide)) (so_126 h0 g _) (by decide) rfl wq307 dX9_readSteps_30 ?_
        refine x_goi (x_runVN (As := []) hx hb hml hown hT hE hW hl.1 (Or.inl (by decide)) (so_1 h0 g _) rfl cf_X8_sign wq581 wq4 wn727 (c_X8_sign l D g T h0 s4 hW.2.1 hp5.1.1) ⟨rfl, rfl, ⟨by decide, by decide⟩, ⟨by decide, by decide⟩⟩ rfl rfl (Nat.le_of_ble_eq_true rfl) dX9_readSteps_33) hW (fun x8 s9 H locs rx8 hp10 hW => ?_)
        obtain ⟨es9, hp10⟩ := hp10
        subst es9
        have ghp10 := hp10
        have C33 : x8 = zch (s0 2) (s0 1 2) (s4 1 3) := zch_i (by have q := congrFun (hF6 2 (by omega)) (s4 1 3); omega)
        have X33 : zch (s0 2) (s0 1 2) (s4 1 3) ≠ -1 → s4 1 3 < s0 1 2 := zch_lt
        refine x_iload_n hx hb hl 2 rfl dX9_readSteps_36 rfl ?_
        refine x_icmp_ne (tgt := 42) hx hb rx8 (by decide) dX9_readSteps_37 (by decide) (fun c11 => ?_) (fun c11 => ?_)
        · skip
          refine x_iinc (lv' := [(3, .int (xJ (i3_13 + 1))), (0, .ref (h0 + 126)), (1, .int (xJ q)), (2, .int (xJ 41))]) hx hb hl 3 rfl dX9_readSteps_42 (by decide) rfl (fun ls hl => ?_)
          refine lv_goto (tgt := 13) hx hb dX9_readSteps_45 (by decide) ?_
          exact ih13 (i3_13 + 1) s4 H locs ls (by omega) hF6 hp5.1.1 (hp5.1.2.1.trans q13_1) (hp5.1.2.2.1.trans q13_2) (by omega) (D21.1.moreN (by omega) (by omega) (by omega)) (by omega) hW (lv_sub hl [1, 2, 3, 0] rfl)
        refine x_iconst hx hb dX9_readSteps_40 ?_
        rw [eQ]
        exact x_zret hx hb hr hlk hW (by omega) ⟨hF6, ⟨hp5.1.1, (hp5.1.2.1.trans q13_1), (hp5.1.2.2.1.trans q13_2), trivial⟩, Or.inl ⟨by omega, D21.1, by omega, by omega, by omega, by omega⟩⟩ dX9_readSteps_41
      refine x_iconst hx hb dX9_readSteps_27 ?_
      rw [eQ]
      exact x_zret hx hb hr hlk hW (by omega) ⟨hF6, ⟨hp5.1.1, (hp5.1.2.1.trans q13_1), (hp5.1.2.2.1.trans q13_2), trivial⟩, H21.elim (fun q => absurd q.1 (by omega)) (fun q => Or.inr ⟨by omega, q.2⟩)⟩ dX9_readSteps_28
  exact L13 ((80 - 0 : Int).toNat + 1) 0 s0 H locs ls (by decide) hF p0 k1_1 k1_2 (by omega) (hz) (Nat.lt_succ_self _) hW (lv_sub hl [2, 3, 1, 0] rfl)
set_option maxHeartbeats 4000000 in
set_option maxRecDepth 100000 in
theorem c_X9_readStepW0 (l : Launch) (D : va_G) (g : xG) (T : Nat × Nat × Nat) (h0 : Nat) (s0 : xS) (hσ : xRR s0) (q : Int) (rq : xR q) (Z : Int × Int × (Int → Int)) (st : List (Int × Int × Int)) (hq : q = 0) (hst : st.length = 0) (hat : 0 ≤ s0 1 3 ∧ s0 1 3 ≤ s0 1 2 ∧ s0 1 2 ≤ 80) (hz : zWS (s0 2) (s0 1 2) 1 Z true (s0 1 3) (s0 126 2) (s0 127) st) (p0 : IC s0) : Met l yX9_readStep (xws yX9_readStep cX9_readStep 6 (some .boolean)) { frames := 5, cells := 0, slots := 0, locals := 120 } (xP [.ref (h0 + 126), .int (xJ q)] D g T h0 s0) (xQi D g h0 (fun r τ => xFr (fun k => k = 1 ∨ k = 126 ∨ k = 127) s0 τ ∧ (((IC τ) ∧ (τ 1 1 = s0 1 1) ∧ (τ 1 2 = s0 1 2) ∧ True) ∧ ((r = 1 ∧ zWS (s0 2) (s0 1 2) 1 Z false (τ 1 3) (τ 126 2) (τ 127) st ∧ s0 1 3 + 1 ≤ τ 1 3 ∧ τ 1 3 ≤ s0 1 2 ∧ s0 126 2 < τ 126 2) ∨ (r = 0 ∧ Z.1 ≠ 0 ∧ τ 1 4 = Z.1))))) 0 0 (xA h0) := by
  refine x_met hσ (by decide) (Nat.le_of_ble_eq_true rfl) ?_
  intro p e s m args below meth c hx hb hr hml hown hT hlk hnm hE hW ls hl
  have hl : lv_has ls 6 [(0, .ref (h0 + 126)), (1, .int (xJ q))] := hl
  obtain ⟨Q, eQ⟩ : ∃ Q, Q = MQ below (xQi D g h0 (fun r τ => xFr (fun k => k = 1 ∨ k = 126 ∨ k = 127) s0 τ ∧ (((IC τ) ∧ (τ 1 1 = s0 1 1) ∧ (τ 1 2 = s0 1 2) ∧ True) ∧ ((r = 1 ∧ zWS (s0 2) (s0 1 2) 1 Z false (τ 1 3) (τ 126 2) (τ 127) st ∧ s0 1 3 + 1 ≤ τ 1 3 ∧ τ 1 3 ≤ s0 1 2 ∧ s0 126 2 < τ 126 2) ∨ (r = 0 ∧ Z.1 ≠ 0 ∧ τ 1 4 = Z.1))))) args s 0 0 (xA h0) := ⟨_, rfl⟩
  rw [← eQ]
  generalize hHe : ([] : List Loc) = locs at hW ⊢
  obtain ⟨H, eH⟩ : ∃ H, H = s.heap := ⟨_, rfl⟩
  rw [← eH] at hW ⊢
  have hF : xFr (fun k => k = 1 ∨ k = 126 ∨ k = 127) s0 s0 := xFr.rf
  have k1_1 : s0 1 1 = s0 1 1 := rfl
  have k1_2 : s0 1 2 = s0 1 2 := rfl
  have k1_3 : s0 1 3 = s0 1 3 := rfl
  have k126_2 : s0 126 2 = s0 126 2 := rfl
  refine x_aload_n hx hb hl 0 rfl dX9_readStep_0 rfl ?_
  refine x_get (j := 0) (v := .ref (h0 + 1)) hx hb hown hT hE hW cls_X9 (Or.inl (by decide)) (so_126 h0 g _) (by decide) rfl wq307 dX9_readStep_1 ?_
  refine x_getN (j := 3) (v := .int (xJ (s0 1 3))) hx hb hown hT hE hW cls_X8 (Or.inl (by decide)) (so_1 h0 g _) (by decide) rfl wn202 dX9_readStep_4 ?_
  refine x_rd hW (fun x1 ex1 rx1 => ?_)
  have fx1 : x1 = s0 1 3 := ex1.trans k1_3
  refine lv_istore_n (lv' := [(2, .int (xJ x1)), (0, .ref (h0 + 126)), (1, .int (xJ q))]) hx hb dX9_readStep_7 rfl hl (by decide) rfl (fun ls hl => ?_)
  refine x_aload_n hx hb hl 1 rfl dX9_readStep_8 rfl ?_
  refine x_get (j := 2) (v := .int (xJ (s0 126 2))) hx hb hown hT hE hW cls_X9 (Or.inl (by decide)) (so_126 h0 g _) (by decide) rfl wq309 dX9_readStep_9 ?_
  refine x_rd hW (fun x2 ex2 rx2 => ?_)
  have bx2 : 0 ≤ x2 ∧ x2 ≤ 60 := by rw [ex2]; exact IC.y p0
  have fx2 : x2 = s0 126 2 := ex2.trans k126_2
  refine lv_istore_n (lv' := [(3, .int (xJ x2)), (2, .int (xJ x1)), (0, .ref (h0 + 126)), (1, .int (xJ q))]) hx hb dX9_readStep_12 rfl hl (by decide) rfl (fun ls hl => ?_)
  refine x_iconst hx hb dX9_readStep_13 ?_
  refine lv_istore (lv' := [(4, .int (xJ 1)), (3, .int (xJ x2)), (2, .int (xJ x1)), (0, .ref (h0 + 126)), (1, .int (xJ q))]) hx hb dX9_readStep_14 hl (by decide) rfl (fun ls hl => ?_)
  refine x_aload_n hx hb hl 3 rfl dX9_readStep_16 rfl ?_
  refine x_get (j := 0) (v := .ref (h0 + 1)) hx hb hown hT hE hW cls_X9 (Or.inl (by decide)) (so_126 h0 g _) (by decide) rfl wq307 dX9_readStep_17 ?_
  refine x_goi (x_runVN (As := []) hx hb hml hown hT hE hW hl.1 (Or.inl (by decide)) (so_1 h0 g _) rfl cf_X8_sign wq581 wq4 wn727 (c_X8_sign l D g T h0 s0 hW.2.1 p0) ⟨rfl, rfl, ⟨by decide, by decide⟩, ⟨by decide, by decide⟩⟩ rfl rfl (Nat.le_of_ble_eq_true rfl) dX9_readStep_20) hW (fun x3 s4 H locs rx3 hp5 hW => ?_)
  obtain ⟨es4, hp5⟩ := hp5
  subst es4
  have ghp5 := hp5
  have C20 : x3 = zch (s0 2) (s0 1 2) (s0 1 3) := zch_i (by omega)
  have T20 := wtm_cs (zch (s0 2) (s0 1 2) (s0 1 3))
  have P20 := wp1_cs (s0 2) (s0 1 2) (s0 1 3)
  have X20 : zch (s0 2) (s0 1 2) (s0 1 3) ≠ -1 → s0 1 3 < s0 1 2 := zch_lt
  refine x_bipush hx hb dX9_readStep_23 (by decide) ?_
  have J65 : ∀ (i4_65 : Int) (s_65 : xS) (H : Heap) (locs : List Loc) (ls : Array Slot), (xR i4_65) → (xFr (fun k => k = 1 ∨ k = 126 ∨ k = 127) s0 s_65) → (IC s_65) → (s_65 1 1 = s0 1 1) → (s_65 1 2 = s0 1 2) → (s_65 126 2 = s0 126 2) → (1 ≤ i4_65 ∧ i4_65 ≤ 9) → (i4_65 = wtm (zch (s0 2) (s0 1 2) (s0 1 3)) ∧ s_65 1 3 = wp1 (s0 2) (s0 1 2) (s0 1 3)) → (s_65 1 3 ≤ s0 1 2) → (s_65 126 2 = s0 126 2 ∧ s_65 127 = s0 127) → xW D g h0 s H locs s_65 → lv_has ls 6 [(0, .ref (h0 + 126)), (1, .int (xJ q)), (2, .int (xJ x1)), (3, .int (xJ x2)), (4, .int (xJ i4_65))] → W p l e { frames := 5, cells := 0, slots := 0, locals := 120 } s m args below meth c H locs 0 0 Q (F0 m 65 ls []) := by
    intro i4_65 s_65 H locs ls ri4_65 hF_65 q65_0 q65_1 q65_2 q65_4 v65_0 v65_1 v65_2 v65_3 hW hl
    refine x_aload_n hx hb hl 0 rfl dX9_readStep_65 rfl ?_
    refine x_get (j := 0) (v := .ref (h0 + 1)) hx hb hown hT hE hW cls_X9 (Or.inl (by decide)) (so_126 h0 g _) (by decide) rfl wq307 dX9_readStep_66 ?_
    refine x_goi (x_runVN (As := []) hx hb hml hown hT hE hW hl.1 (Or.inl (by decide)) (so_1 h0 g _) rfl cf_X8_sign wq581 wq4 wn727 (c_X8_sign l D g T h0 s_65 hW.2.1 q65_0) ⟨rfl, rfl, ⟨by decide, by decide⟩, ⟨by decide, by decide⟩⟩ rfl rfl (Nat.le_of_ble_eq_true rfl) dX9_readStep_69) hW (fun x6 s7 H locs rx6 hp8 hW => ?_)
    obtain ⟨es7, hp8⟩ := hp8
    subst es7
    have ghp8 := hp8
    have C69 : x6 = zch (s0 2) (s0 1 2) (s_65 1 3) := zch_i (by have q := congrFun (hF_65 2 (by omega)) (s_65 1 3); omega)
    have X69 : zch (s0 2) (s0 1 2) (s_65 1 3) ≠ -1 → s_65 1 3 < s0 1 2 := zch_lt
    refine x_bipush hx hb dX9_readStep_72 (by decide) ?_
    refine x_icmp_ne (tgt := 166) hx hb rx6 (by decide) dX9_readStep_74 (by decide) (fun c9 => ?_) (fun c9 => ?_)
    · skip
      refine x_aload_n hx hb hl 0 rfl dX9_readStep_166 rfl ?_
      refine x_get (j := 0) (v := .ref (h0 + 1)) hx hb hown hT hE hW cls_X9 (Or.inl (by decide)) (so_126 h0 g _) (by decide) rfl wq307 dX9_readStep_167 ?_
      refine x_goi (x_runVN (As := []) hx hb hml hown hT hE hW hl.1 (Or.inl (by decide)) (so_1 h0 g _) rfl cf_X8_sign wq581 wq4 wn727 (c_X8_sign l D g T h0 s_65 hW.2.1 q65_0) ⟨rfl, rfl, ⟨by decide, by decide⟩, ⟨by decide, by decide⟩⟩ rfl rfl (Nat.le_of_ble_eq_true rfl) dX9_readStep_170) hW (fun x10 s11 H locs rx10 hp12 hW => ?_)
      obtain ⟨es11, hp12⟩ := hp12
      subst es11
      have ghp12 := hp12
      have C170 : x10 = zch (s0 2) (s0 1 2) (s_65 1 3) := zch_i (by have q := congrFun (hF_65 2 (by omega)) (s_65 1 3); omega)
      refine x_goi (x_runS (As := [.int (xJ x10)]) hx hb hml hown hT hE hW hl.1 cf_X9_stepOf wq735 wq734 (c_X9_stepOfW l D g T h0 s_65 hW.2.1 x10 rx10) ⟨rfl, rfl, ⟨by decide, by decide⟩, ⟨by decide, by decide⟩⟩ rfl rfl (Nat.le_of_ble_eq_true rfl) dX9_readStep_173) hW (fun x13 s14 H locs rx13 hp15 hW => ?_)
      obtain ⟨es14, hp15⟩ := hp15
      subst es14
      have ghp15 := hp15
      have S173 := wst_i ghp15
      rw [C170] at S173
      refine lv_istore (lv' := [(5, .int (xJ x13)), (0, .ref (h0 + 126)), (1, .int (xJ q)), (2, .int (xJ x1)), (3, .int (xJ x2)), (4, .int (xJ i4_65))]) hx hb dX9_readStep_176 hl (by decide) rfl (fun ls hl => ?_)
      refine x_iload hx hb hl 0 rfl dX9_readStep_178 ?_
      refine x_iconst hx hb dX9_readStep_180 ?_
      refine x_icmp_ne (tgt := 200) hx hb rx13 (by decide) dX9_readStep_181 (by decide) (fun c16 => ?_) (fun c16 => ?_)
      · skip
        refine x_aload_n hx hb hl 1 rfl dX9_readStep_200 rfl ?_
        refine x_get (j := 0) (v := .ref (h0 + 1)) hx hb hown hT hE hW cls_X9 (Or.inl (by decide)) (so_126 h0 g _) (by decide) rfl wq307 dX9_readStep_201 ?_
        refine lv_dup hx hb dX9_readStep_204 rfl ?_
        refine x_getN (j := 3) (v := .int (xJ (s_65 1 3))) hx hb hown hT hE hW cls_X8 (Or.inl (by decide)) (so_1 h0 g _) (by decide) rfl wn202 dX9_readStep_205 ?_
        refine x_rd hW (fun x17 ex17 rx17 => ?_)
        refine x_iconst hx hb dX9_readStep_208 ?_
        refine x_iadd hx hb dX9_readStep_209 ?_
        refine x_putN (j := 3) hx hb hown hT hE hW cls_X8 (by decide) (fun σ => so_1 h0 g σ) (by decide) (st_X8_3 h0 s_65 1 (x17 + 1)) (ln_X8_3 h0 _ _) wn202 rfl rfl rfl (by omega) dX9_readStep_210 (fun H locs s18 es18 hW => ?_)
        have q19 : IC s18 := by rw [es18]; exact IC_1 q65_0 (by omega)
        have q20 : s18 1 1 = s0 1 1 := (show s18 1 1 = s_65 1 1 from by rw [es18, xU_j _ _ (by decide)]).trans q65_1
        have q21 : s18 1 2 = s0 1 2 := (show s18 1 2 = s_65 1 2 from by rw [es18, xU_j _ _ (by decide)]).trans q65_2
        have q22 : s18 126 2 = s0 126 2 := (show s18 126 2 = s_65 126 2 from by rw [es18, xU_k _ _ _ (by omega)]).trans q65_4
        have q23 : s18 1 3 = (x17 + 1) := by rw [es18, xU_s]
        have hF24 := hF_65.put es18 (by omega)
        have Q210 : s18 126 2 = s0 126 2 ∧ s18 127 = s0 127 := by rw [es18, xU_k _ _ _ (by omega), xU_k _ _ _ (by omega)]; exact v65_3
        refine x_aload_n hx hb hl 1 rfl dX9_readStep_213 rfl ?_
        refine x_get (j := 2) (v := .int (xJ (s18 126 2))) hx hb hown hT hE hW cls_X9 (Or.inl (by decide)) (so_126 h0 g _) (by decide) rfl wq309 dX9_readStep_214 ?_
        refine x_rd hW (fun x25 ex25 rx25 => ?_)
        have bx25 : 0 ≤ x25 ∧ x25 ≤ 60 := by rw [ex25]; exact IC.y q19
        have fx25 : x25 = s0 126 2 := ex25.trans q22
        refine x_bipush hx hb dX9_readStep_217 (by decide) ?_
        refine x_icmp_lt (tgt := 233) hx hb rx25 (by decide) dX9_readStep_219 (by decide) (fun c26 => ?_) (fun c26 => ?_)
        · skip
          refine x_aload_n hx hb hl 1 rfl dX9_readStep_233 rfl ?_
          refine x_get (j := 1) (v := .ref (h0 + 127)) hx hb hown hT hE hW cls_X9 (Or.inl (by decide)) (so_126 h0 g _) (by decide) rfl wq308 dX9_readStep_234 ?_
          refine x_aload_n hx hb hl 1 rfl dX9_readStep_237 rfl ?_
          refine x_get (j := 2) (v := .int (xJ (s18 126 2))) hx hb hown hT hE hW cls_X9 (Or.inl (by decide)) (so_126 h0 g _) (by decide) rfl wq309 dX9_readStep_238 ?_
          refine x_rd hW (fun x27 ex27 rx27 => ?_)
          have bx27 : 0 ≤ x27 ∧ x27 ≤ 60 := by rw [ex27]; exact IC.y q19
          have fx27 : x27 = s0 126 2 := ex27.trans q22
          refine x_iload hx hb hl 0 rfl dX9_readStep_241 ?_
          refine x_iast hx hb hE hW (by decide) (fun σ => sa_127 h0 g σ) (by omega) (by decide) rx13 dX9_readStep_243 (fun H locs s28 es28 hW => ?_)
          have q29 : IC s28 := by rw [es28]; exact IC_o (by decide) q19
          have q30 : s28 1 1 = s0 1 1 := (show s28 1 1 = s18 1 1 from by rw [es28, xU_k _ _ _ (by omega)]).trans q20
          have q31 : s28 1 2 = s0 1 2 := (show s28 1 2 = s18 1 2 from by rw [es28, xU_k _ _ _ (by omega)]).trans q21
          have q32 : s28 126 2 = s0 126 2 := (show s28 126 2 = s18 126 2 from by rw [es28, xU_k _ _ _ (by omega)]).trans q22
          have q33 : s28 1 3 = (x17 + 1) := (show s28 1 3 = s18 1 3 from by rw [es28, xU_k _ _ _ (by omega)]).trans q23
          have hF34 := hF24.put es28 (by omega)
          have A243 : s28 127 = xud (s0 127) (s0 126 2) (1 * wst (zch (s0 2) (s0 1 2) (s_65 1 3))) ∧ s28 1 3 = s_65 1 3 + 1 := ⟨by rw [es28, xU_xud, Q210.2, show x27 = s0 126 2 from by omega, Int.one_mul, ← S173], by rw [es28, xU_k _ _ _ (by omega)]; omega⟩
          refine x_aload_n hx hb hl 1 rfl dX9_readStep_244 rfl ?_
          refine lv_dup hx hb dX9_readStep_245 rfl ?_
          refine x_get (j := 2) (v := .int (xJ (s28 126 2))) hx hb hown hT hE hW cls_X9 (Or.inl (by decide)) (so_126 h0 g _) (by decide) rfl wq309 dX9_readStep_246 ?_
          refine x_rd hW (fun x35 ex35 rx35 => ?_)
          have bx35 : 0 ≤ x35 ∧ x35 ≤ 60 := by rw [ex35]; exact IC.y q29
          have fx35 : x35 = s0 126 2 := ex35.trans q32
          refine x_iconst hx hb dX9_readStep_249 ?_
          refine x_iadd hx hb dX9_readStep_250 ?_
          refine x_put (j := 2) hx hb hown hT hE hW cls_X9 (by decide) (fun σ => so_126 h0 g σ) (by decide) (st_X9_2 h0 s28 126 (x35 + 1)) (ln_X9_2 h0 _ _) wq309 rfl rfl rfl (by omega) dX9_readStep_251 (fun H locs s36 es36 hW => ?_)
          have q37 : IC s36 := by rw [es36]; exact IC_126 q29 (by omega)
          have q38 : s36 1 1 = s0 1 1 := (show s36 1 1 = s28 1 1 from by rw [es36, xU_k _ _ _ (by omega)]).trans q30
          have q39 : s36 1 2 = s0 1 2 := (show s36 1 2 = s28 1 2 from by rw [es36, xU_k _ _ _ (by omega)]).trans q31
          have q40 : s36 126 2 = (x35 + 1) := by rw [es36, xU_s]
          have q41 : s36 1 3 = (x17 + 1) := (show s36 1 3 = s28 1 3 from by rw [es36, xU_k _ _ _ (by omega)]).trans q33
          have hF42 := hF34.put es36 (by omega)
          have A251 : s36 127 = xud (s0 127) (s0 126 2) (1 * wst (zch (s0 2) (s0 1 2) (s_65 1 3))) ∧ s36 1 3 = s_65 1 3 + 1 := by rw [es36, xU_k _ _ _ (by omega), xU_k _ _ _ (by omega)]; exact A243
          have B251 : s36 126 2 = s0 126 2 + 1 := by omega
          refine x_aload_n hx hb hl 1 rfl dX9_readStep_254 rfl ?_
          refine x_iload_n hx hb hl 4 rfl dX9_readStep_255 rfl ?_
          refine x_iload hx hb hl 5 rfl dX9_readStep_256 ?_
          refine x_iconst hx hb dX9_readStep_258 ?_
          refine x_isub hx hb dX9_readStep_259 ?_
          refine x_goi (x_runV (As := [.int (xJ x2), .int (xJ (i4_65 - 1))]) hx hb hml hown hT hE hW hl.1 (Or.inl (by decide)) (so_126 h0 g _) rfl cf_X9_repeat wq732 wq31 wq730 (c_X9_repeatW l D g T h0 s36 hW.2.1 x2 rx2 (i4_65 - 1) (by omega) (by have y := IC.y q37; omega) (by omega) q37) ⟨rfl, rfl, ⟨by decide, by decide⟩, ⟨by decide, by decide⟩⟩ rfl rfl (Nat.le_of_ble_eq_true rfl) dX9_readStep_260) hW (fun x43 s44 H locs rx43 hp45 hW => ?_)
          obtain ⟨fs44, hp45⟩ := hp45
          have hF46 := hF42.call fs44 (fun k h => by omega)
          have q47 : s44 1 1 = s0 1 1 := (congrFun (fs44 _ (by omega)) _).trans q38
          have q48 : s44 1 2 = s0 1 2 := (congrFun (fs44 _ (by omega)) _).trans q39
          have q49 : s44 1 3 = (x17 + 1) := (congrFun (fs44 _ (by omega)) _).trans q41
          have ghp45 := hp45.2
          have R260 := ghp45
          rw [A251.1, B251, show x2 = s0 126 2 from by omega, show s0 126 2 + 1 - s0 126 2 = 1 from by omega, Int.mul_one] at R260
          have E260 : s44 1 3 = s_65 1 3 + 1 := (congrFun (fs44 1 (by omega)) 3).trans A251.2
          refine x_if_ne (tgt := 279) hx hb rx43 dX9_readStep_263 (by decide) (fun c50 => ?_) (fun c50 => ?_)
          · skip
            refine x_iconst hx hb dX9_readStep_279 ?_
            refine lv_goto (tgt := 284) hx hb dX9_readStep_280 (by decide) ?_
            rw [eQ]
            exact x_zret hx hb hr hlk hW (by omega) ⟨hF46, ⟨hp45.1.1, q47, q48, trivial⟩, by first | exact Or.inl ⟨by omega, hz.step (by omega) v65_1.2 v65_1.1 (by omega) (by omega) (by omega) (by omega) (by omega) (R260.resolve_right (fun q => by omega)).2.2.2, by omega, by omega, by omega⟩ | (have z := hz.six (by omega) v65_1.2 v65_1.1 (by omega) (by omega) (by omega); rw [z]; exact Or.inr ⟨by omega, (by show (-6000 - _ : Int) ≠ 0; omega), (by show _ = (-6000 - _ : Int); omega)⟩)⟩ dX9_readStep_284
          refine x_aload_n hx hb hl 1 rfl dX9_readStep_266 rfl ?_
          refine x_get (j := 0) (v := .ref (h0 + 1)) hx hb hown hT hE hW cls_X9 (Or.inl (by decide)) (so_126 h0 g _) (by decide) rfl wq307 dX9_readStep_267 ?_
          refine x_bipush hx hb dX9_readStep_270 (by decide) ?_
          refine x_iload_n hx hb hl 3 rfl dX9_readStep_272 rfl ?_
          refine x_goi (x_runVN (As := [.int (xJ 6), .int (xJ x1)]) hx hb hml hown hT hE hW hl.1 (Or.inl (by decide)) (so_1 h0 g _) rfl cf_X8_fails wq588 wq5 wn728 (c_X8_failsM l D g T h0 s44 hW.2.1 6 (by decide) x1 rx1 (by omega) hp45.1.1) ⟨rfl, rfl, ⟨by decide, by decide⟩, ⟨by decide, by decide⟩⟩ rfl rfl (Nat.le_of_ble_eq_true rfl) dX9_readStep_273) hW (fun x51 s52 H locs rx51 hp53 hW => ?_)
          obtain ⟨fs52, hp53⟩ := hp53
          have hF54 := hF46.call fs52 (fun k h => by omega)
          have ghp53 := hp53.2
          refine x_if_eq (tgt := 283) hx hb rx51 dX9_readStep_276 (by decide) (fun c55 => ?_) (fun c55 => False.elim (by omega))
          refine x_iconst hx hb dX9_readStep_283 ?_
          rw [eQ]
          exact x_zret hx hb hr hlk hW (by omega) ⟨hF54, ⟨hp53.1.1, (hp53.1.2.1.trans q47), (hp53.1.2.2.1.trans q48), trivial⟩, by first | exact Or.inl ⟨by omega, hz.step (by omega) v65_1.2 v65_1.1 (by omega) (by omega) (by omega) (by omega) (by omega) (R260.resolve_right (fun q => by omega)).2.2.2, by omega, by omega, by omega⟩ | (have z := hz.six (by omega) v65_1.2 v65_1.1 (by omega) (by omega) (by omega); rw [z]; exact Or.inr ⟨by omega, (by show (-6000 - _ : Int) ≠ 0; omega), (by show _ = (-6000 - _ : Int); omega)⟩)⟩ dX9_readStep_284
        refine x_aload_n hx hb hl 1 rfl dX9_readStep_222 rfl ?_
        refine x_get (j := 0) (v := .ref (h0 + 1)) hx hb hown hT hE hW cls_X9 (Or.inl (by decide)) (so_126 h0 g _) (by decide) rfl wq307 dX9_readStep_223 ?_
        refine x_bipush hx hb dX9_readStep_226 (by decide) ?_
        refine x_iload_n hx hb hl 3 rfl dX9_readStep_228 rfl ?_
        refine x_goi (x_runVN (As := [.int (xJ 6), .int (xJ x1)]) hx hb hml hown hT hE hW hl.1 (Or.inl (by decide)) (so_1 h0 g _) rfl cf_X8_fails wq588 wq5 wn728 (c_X8_failsM l D g T h0 s18 hW.2.1 6 (by decide) x1 rx1 (by omega) q19) ⟨rfl, rfl, ⟨by decide, by decide⟩, ⟨by decide, by decide⟩⟩ rfl rfl (Nat.le_of_ble_eq_true rfl) dX9_readStep_229) hW (fun x56 s57 H locs rx56 hp58 hW => ?_)
        obtain ⟨fs57, hp58⟩ := hp58
        have hF59 := hF24.call fs57 (fun k h => by omega)
        have q60 : s57 126 2 = s0 126 2 := (congrFun (fs57 _ (by omega)) _).trans q22
        have ghp58 := hp58.2
        rw [eQ]
        exact x_zret hx hb hr hlk hW (by omega) ⟨hF59, ⟨hp58.1.1, (hp58.1.2.1.trans q20), (hp58.1.2.2.1.trans q21), trivial⟩, by
            have z := hz.six (by omega) v65_1.2 v65_1.1 (by omega) (by omega) (by omega)
            rw [z]
            exact Or.inr ⟨by omega, (by show (-6000 - _ : Int) ≠ 0; omega), (by show _ = (-6000 - _ : Int); omega)⟩⟩ dX9_readStep_232
      refine x_aload_n hx hb hl 1 rfl dX9_readStep_184 rfl ?_
      refine x_get (j := 0) (v := .ref (h0 + 1)) hx hb hown hT hE hW cls_X9 (Or.inl (by decide)) (so_126 h0 g _) (by decide) rfl wq307 dX9_readStep_185 ?_
      refine x_iconst hx hb dX9_readStep_188 ?_
      refine x_aload_n hx hb hl 1 rfl dX9_readStep_189 rfl ?_
      refine x_get (j := 0) (v := .ref (h0 + 1)) hx hb hown hT hE hW cls_X9 (Or.inl (by decide)) (so_126 h0 g _) (by decide) rfl wq307 dX9_readStep_190 ?_
      refine x_getN (j := 3) (v := .int (xJ (s_65 1 3))) hx hb hown hT hE hW cls_X8 (Or.inl (by decide)) (so_1 h0 g _) (by decide) rfl wn202 dX9_readStep_193 ?_
      refine x_rd hW (fun x61 ex61 rx61 => ?_)
      refine x_goi (x_runVN (As := [.int (xJ 1), .int (xJ x61)]) hx hb hml hown hT hE hW hl.1 (Or.inl (by decide)) (so_1 h0 g _) rfl cf_X8_fails wq588 wq5 wn728 (c_X8_failsM l D g T h0 s_65 hW.2.1 1 (by decide) x61 rx61 (by omega) q65_0) ⟨rfl, rfl, ⟨by decide, by decide⟩, ⟨by decide, by decide⟩⟩ rfl rfl (Nat.le_of_ble_eq_true rfl) dX9_readStep_196) hW (fun x62 s63 H locs rx62 hp64 hW => ?_)
      obtain ⟨fs63, hp64⟩ := hp64
      have hF65 := hF_65.call fs63 (fun k h => by omega)
      have q66 : s63 126 2 = s0 126 2 := (congrFun (fs63 _ (by omega)) _).trans q65_4
      have ghp64 := hp64.2
      rw [eQ]
      exact x_zret hx hb hr hlk hW (by omega) ⟨hF65, ⟨hp64.1.1, (hp64.1.2.1.trans q65_1), (hp64.1.2.2.1.trans q65_2), trivial⟩, by
          have z := hz.one (by omega) v65_1.2 (by omega) (by omega)
          rw [z]
          exact Or.inr ⟨by omega, (by show (-1000 - _ : Int) ≠ 0; omega), (by show _ = (-1000 - _ : Int); omega)⟩⟩ dX9_readStep_199
    refine x_iload_n hx hb hl 1 rfl dX9_readStep_77 rfl ?_
    refine x_iconst hx hb dX9_readStep_78 ?_
    refine x_icmp_lt (tgt := 98) hx hb rq (by decide) dX9_readStep_79 (by decide) (fun c67 => ?_) (fun c67 => False.elim (by omega))
    refine x_aload_n hx hb hl 0 rfl dX9_readStep_98 rfl ?_
    refine x_get (j := 0) (v := .ref (h0 + 1)) hx hb hown hT hE hW cls_X9 (Or.inl (by decide)) (so_126 h0 g _) (by decide) rfl wq307 dX9_readStep_99 ?_
    refine lv_dup hx hb dX9_readStep_102 rfl ?_
    refine x_getN (j := 3) (v := .int (xJ (s_65 1 3))) hx hb hown hT hE hW cls_X8 (Or.inl (by decide)) (so_1 h0 g _) (by decide) rfl wn202 dX9_readStep_103 ?_
    refine x_rd hW (fun x68 ex68 rx68 => ?_)
    refine x_iconst hx hb dX9_readStep_106 ?_
    refine x_iadd hx hb dX9_readStep_107 ?_
    refine x_putN (j := 3) hx hb hown hT hE hW cls_X8 (by decide) (fun σ => so_1 h0 g σ) (by decide) (st_X8_3 h0 s_65 1 (x68 + 1)) (ln_X8_3 h0 _ _) wn202 rfl rfl rfl (by omega) dX9_readStep_108 (fun H locs s69 es69 hW => ?_)
    have q70 : IC s69 := by rw [es69]; exact IC_1 q65_0 (by omega)
    have q71 : s69 1 1 = s0 1 1 := (show s69 1 1 = s_65 1 1 from by rw [es69, xU_j _ _ (by decide)]).trans q65_1
    have q72 : s69 1 2 = s0 1 2 := (show s69 1 2 = s_65 1 2 from by rw [es69, xU_j _ _ (by decide)]).trans q65_2
    have q73 : s69 126 2 = s0 126 2 := (show s69 126 2 = s_65 126 2 from by rw [es69, xU_k _ _ _ (by omega)]).trans q65_4
    have q74 : s69 1 3 = (x68 + 1) := by rw [es69, xU_s]
    have hF75 := hF_65.put es69 (by omega)
    have Q108 : s69 126 2 = s0 126 2 ∧ s69 127 = s0 127 := by rw [es69, xU_k _ _ _ (by omega), xU_k _ _ _ (by omega)]; exact v65_3
    have G108 : s69 2 = s0 2 := hF75 2 (by omega)
    have N108 : s69 1 2 = s0 1 2 := q72
    have O108 : zWS (s69 2) (s69 1 2) 1 Z true (s69 1 3) (s69 126 2) (s69 127) ((s0 1 3, s0 126 2, i4_65) :: st) := by
      rw [G108, N108, Q108.1, Q108.2]
      exact hz.open_ (by omega) v65_1.2 v65_1.1 (by omega) (by omega) (by omega)
    refine x_aload_n hx hb hl 0 rfl dX9_readStep_111 rfl ?_
    refine x_iload_n hx hb hl 1 rfl dX9_readStep_112 rfl ?_
    refine x_iconst hx hb dX9_readStep_113 ?_
    refine x_iadd hx hb dX9_readStep_114 ?_
    refine x_goi (x_runV (As := [.int (xJ (q + 1))]) hx hb hml hown hT hE hW hl.1 (Or.inl (by decide)) (so_126 h0 g _) rfl cf_X9_readSteps wq721 wq29 wq719 (c_X9_readStepsW1 l D g T h0 s69 hW.2.1 (q + 1) (by omega) Z ((s0 1 3, s0 126 2, i4_65) :: st) (by omega) (by show st.length + 1 = _; omega) (by omega) (O108) q70) ⟨rfl, rfl, ⟨by decide, by decide⟩, ⟨by decide, by decide⟩⟩ rfl rfl (Nat.le_of_ble_eq_true rfl) dX9_readStep_115) hW (fun x76 s77 H locs rx76 hp78 hW => ?_)
    obtain ⟨fs77, hp78⟩ := hp78
    have hF79 := hF75.call fs77 (fun k h => by omega)
    have ghp78 := hp78.2
    have H115 := ghp78
    rw [G108, N108] at H115
    obtain ⟨z9, ez9⟩ : ∃ z : Int, z = s77 126 2 := ⟨_, rfl⟩
    obtain ⟨K9, eK9⟩ : ∃ K, K = s77 127 := ⟨_, rfl⟩
    obtain ⟨p9, ep9⟩ : ∃ p : Int, p = s77 1 3 := ⟨_, rfl⟩
    rw [← ez9, ← eK9, ← ep9] at H115
    have X115 : zch (s0 2) (s0 1 2) p9 ≠ -1 → p9 < s0 1 2 := zch_lt
    have G115 : s77 2 = s0 2 := hF79 2 (by omega)
    have N115 : s77 1 2 = s0 1 2 := (hp78.1.2.2.1.trans q72)
    refine x_if_eq (tgt := 133) hx hb rx76 dX9_readStep_118 (by decide) (fun c80 => ?_) (fun c80 => ?_)
    · skip
      refine x_iconst hx hb dX9_readStep_133 ?_
      rw [eQ]
      exact x_zret hx hb hr hlk hW (by omega) ⟨hF79, ⟨hp78.1.1, (hp78.1.2.1.trans q71), (hp78.1.2.2.1.trans q72), trivial⟩, Or.inr ⟨by omega, (H115.resolve_left (fun q => by omega)).2.1, by omega⟩⟩ dX9_readStep_134
    refine x_aload_n hx hb hl 0 rfl dX9_readStep_121 rfl ?_
    refine x_get (j := 0) (v := .ref (h0 + 1)) hx hb hown hT hE hW cls_X9 (Or.inl (by decide)) (so_126 h0 g _) (by decide) rfl wq307 dX9_readStep_122 ?_
    refine x_bipush hx hb dX9_readStep_125 (by decide) ?_
    refine x_goi (x_runVN (As := [.int (xJ 41)]) hx hb hml hown hT hE hW hl.1 (Or.inl (by decide)) (so_1 h0 g _) rfl cf_X8_passes wq598 wq6 wn729 (c_X8_passesM l D g T h0 s77 hW.2.1 41 (by decide) (by omega) (by omega) hp78.1.1) ⟨rfl, rfl, ⟨by decide, by decide⟩, ⟨by decide, by decide⟩⟩ rfl rfl (Nat.le_of_ble_eq_true rfl) dX9_readStep_127) hW (fun x81 s82 H locs rx81 hp83 hW => ?_)
    obtain ⟨fs82, hp83⟩ := hp83
    have hF84 := hF79.call fs82 (fun k h => by omega)
    have ghp83 := hp83.2
    have P127 := ghp83
    rw [G115, N115, ← ep9] at P127
    have Q127 : s82 126 2 = z9 ∧ s82 127 = K9 := by rw [fs82 126 (by omega), fs82 127 (by omega)]; exact ⟨ez9.symm, eK9.symm⟩
    have E127 : s82 1 3 = p9 + 1 := by omega
    refine x_if_ne (tgt := 135) hx hb rx81 dX9_readStep_130 (by decide) (fun c85 => ?_) (fun c85 => False.elim (by omega))
    refine x_aload_n hx hb hl 0 rfl dX9_readStep_135 rfl ?_
    refine x_iload_n hx hb hl 3 rfl dX9_readStep_136 rfl ?_
    refine x_iload hx hb hl 4 rfl dX9_readStep_137 ?_
    refine x_iconst hx hb dX9_readStep_139 ?_
    refine x_isub hx hb dX9_readStep_140 ?_
    refine x_goi (x_runV (As := [.int (xJ x2), .int (xJ (i4_65 - 1))]) hx hb hml hown hT hE hW hl.1 (Or.inl (by decide)) (so_126 h0 g _) rfl cf_X9_repeat wq732 wq31 wq730 (c_X9_repeatW l D g T h0 s82 hW.2.1 x2 rx2 (i4_65 - 1) (by omega) (by have y := IC.y hp83.1.1; omega) (by omega) hp83.1.1) ⟨rfl, rfl, ⟨by decide, by decide⟩, ⟨by decide, by decide⟩⟩ rfl rfl (Nat.le_of_ble_eq_true rfl) dX9_readStep_141) hW (fun x86 s87 H locs rx86 hp88 hW => ?_)
    obtain ⟨fs87, hp88⟩ := hp88
    have hF89 := hF84.call fs87 (fun k h => by omega)
    have q90 : s87 1 1 = s0 1 1 := (congrFun (fs87 _ (by omega)) _).trans (hp83.1.2.1.trans (hp78.1.2.1.trans q71))
    have q91 : s87 1 2 = s0 1 2 := (congrFun (fs87 _ (by omega)) _).trans (hp83.1.2.2.1.trans (hp78.1.2.2.1.trans q72))
    have ghp88 := hp88.2
    have R141 := ghp88
    rw [Q127.1, Q127.2, show x2 = s0 126 2 from by omega] at R141
    have E141 : s87 1 3 = p9 + 1 := (congrFun (fs87 1 (by omega)) 3).trans E127
    have V141 := (H115.resolve_right (fun q => by omega)).2
    have m141 : 0 ≤ (i4_65 - 1) * (z9 - s0 126 2) := Int.mul_nonneg (by omega) (by omega)
    refine x_if_ne (tgt := 160) hx hb rx86 dX9_readStep_144 (by decide) (fun c92 => ?_) (fun c92 => ?_)
    · skip
      refine x_iconst hx hb dX9_readStep_160 ?_
      refine lv_goto (tgt := 165) hx hb dX9_readStep_161 (by decide) ?_
      rw [eQ]
      exact x_zret hx hb hr hlk hW (by omega) ⟨hF89, ⟨hp88.1.1, q90, q91, trivial⟩, by first | (have z := V141.1.pop6 (by omega) (by omega) (by omega); rw [z]; exact Or.inr ⟨by omega, (by show (-6000 - _ : Int) ≠ 0; omega), (by show _ = (-6000 - _ : Int); omega)⟩) | exact Or.inl ⟨by omega, V141.1.pop (by omega) (by omega) (by omega) (by omega) (by omega) (R141.resolve_right (fun q => by omega)).2.2.2, by omega, by omega, by omega⟩⟩ dX9_readStep_165
    refine x_aload_n hx hb hl 0 rfl dX9_readStep_147 rfl ?_
    refine x_get (j := 0) (v := .ref (h0 + 1)) hx hb hown hT hE hW cls_X9 (Or.inl (by decide)) (so_126 h0 g _) (by decide) rfl wq307 dX9_readStep_148 ?_
    refine x_bipush hx hb dX9_readStep_151 (by decide) ?_
    refine x_iload_n hx hb hl 2 rfl dX9_readStep_153 rfl ?_
    refine x_goi (x_runVN (As := [.int (xJ 6), .int (xJ x1)]) hx hb hml hown hT hE hW hl.1 (Or.inl (by decide)) (so_1 h0 g _) rfl cf_X8_fails wq588 wq5 wn728 (c_X8_failsM l D g T h0 s87 hW.2.1 6 (by decide) x1 rx1 (by omega) hp88.1.1) ⟨rfl, rfl, ⟨by decide, by decide⟩, ⟨by decide, by decide⟩⟩ rfl rfl (Nat.le_of_ble_eq_true rfl) dX9_readStep_154) hW (fun x93 s94 H locs rx93 hp95 hW => ?_)
    obtain ⟨fs94, hp95⟩ := hp95
    have hF96 := hF89.call fs94 (fun k h => by omega)
    have ghp95 := hp95.2
    refine x_if_eq (tgt := 164) hx hb rx93 dX9_readStep_157 (by decide) (fun c97 => ?_) (fun c97 => False.elim (by omega))
    refine x_iconst hx hb dX9_readStep_164 ?_
    rw [eQ]
    exact x_zret hx hb hr hlk hW (by omega) ⟨hF96, ⟨hp95.1.1, (hp95.1.2.1.trans q90), (hp95.1.2.2.1.trans q91), trivial⟩, by first | (have z := V141.1.pop6 (by omega) (by omega) (by omega); rw [z]; exact Or.inr ⟨by omega, (by show (-6000 - _ : Int) ≠ 0; omega), (by show _ = (-6000 - _ : Int); omega)⟩) | exact Or.inl ⟨by omega, V141.1.pop (by omega) (by omega) (by omega) (by omega) (by omega) (R141.resolve_right (fun q => by omega)).2.2.2, by omega, by omega, by omega⟩⟩ dX9_readStep_165
  refine x_icmp_lt (tgt := 65) hx hb rx3 (by decide) dX9_readStep_25 (by decide) (fun c98 => ?_) (fun c98 => ?_)
  · skip
    exact J65 1 s0 H locs ls (by decide) hF p0 k1_1 k1_2 k126_2 (by omega) (by omega) (by omega) (by first | exact ⟨rfl, rfl⟩ | (rw [es0, xU_k _ _ _ (by omega), xU_k _ _ _ (by omega)]; exact ⟨rfl, rfl⟩)) hW (lv_sub hl [3, 4, 2, 1, 0] rfl)
  refine x_aload_n hx hb hl 3 rfl dX9_readStep_28 rfl ?_
  refine x_get (j := 0) (v := .ref (h0 + 1)) hx hb hown hT hE hW cls_X9 (Or.inl (by decide)) (so_126 h0 g _) (by decide) rfl wq307 dX9_readStep_29 ?_
  refine x_goi (x_runVN (As := []) hx hb hml hown hT hE hW hl.1 (Or.inl (by decide)) (so_1 h0 g _) rfl cf_X8_sign wq581 wq4 wn727 (c_X8_sign l D g T h0 s0 hW.2.1 p0) ⟨rfl, rfl, ⟨by decide, by decide⟩, ⟨by decide, by decide⟩⟩ rfl rfl (Nat.le_of_ble_eq_true rfl) dX9_readStep_32) hW (fun x99 s100 H locs rx99 hp101 hW => ?_)
  obtain ⟨es100, hp101⟩ := hp101
  subst es100
  have ghp101 := hp101
  have C32 : x99 = zch (s0 2) (s0 1 2) (s0 1 3) := zch_i (by omega)
  refine x_bipush hx hb dX9_readStep_35 (by decide) ?_
  refine x_icmp_gt (tgt := 65) hx hb rx99 (by decide) dX9_readStep_37 (by decide) (fun c102 => ?_) (fun c102 => ?_)
  · skip
    exact J65 1 s0 H locs ls (by decide) hF p0 k1_1 k1_2 k126_2 (by omega) (by omega) (by omega) (by first | exact ⟨rfl, rfl⟩ | (rw [es0, xU_k _ _ _ (by omega), xU_k _ _ _ (by omega)]; exact ⟨rfl, rfl⟩)) hW (lv_sub hl [3, 4, 2, 1, 0] rfl)
  refine x_aload_n hx hb hl 3 rfl dX9_readStep_40 rfl ?_
  refine x_get (j := 0) (v := .ref (h0 + 1)) hx hb hown hT hE hW cls_X9 (Or.inl (by decide)) (so_126 h0 g _) (by decide) rfl wq307 dX9_readStep_41 ?_
  refine x_goi (x_runVN (As := []) hx hb hml hown hT hE hW hl.1 (Or.inl (by decide)) (so_1 h0 g _) rfl cf_X8_sign wq581 wq4 wn727 (c_X8_sign l D g T h0 s0 hW.2.1 p0) ⟨rfl, rfl, ⟨by decide, by decide⟩, ⟨by decide, by decide⟩⟩ rfl rfl (Nat.le_of_ble_eq_true rfl) dX9_readStep_44) hW (fun x103 s104 H locs rx103 hp105 hW => ?_)
  obtain ⟨es104, hp105⟩ := hp105
  subst es104
  have ghp105 := hp105
  have C44 : x103 = zch (s0 2) (s0 1 2) (s0 1 3) := zch_i (by omega)
  refine x_bipush hx hb dX9_readStep_47 (by decide) ?_
  refine x_isub hx hb dX9_readStep_49 ?_
  refine x_nm (fun x106 ex106 => ?_)
  refine lv_istore (lv' := [(4, .int (xJ x106)), (3, .int (xJ x2)), (2, .int (xJ x1)), (0, .ref (h0 + 126)), (1, .int (xJ q))]) hx hb dX9_readStep_50 hl (by decide) rfl (fun ls hl => ?_)
  refine x_aload_n hx hb hl 3 rfl dX9_readStep_52 rfl ?_
  refine x_get (j := 0) (v := .ref (h0 + 1)) hx hb hown hT hE hW cls_X9 (Or.inl (by decide)) (so_126 h0 g _) (by decide) rfl wq307 dX9_readStep_53 ?_
  refine lv_dup hx hb dX9_readStep_56 rfl ?_
  refine x_getN (j := 3) (v := .int (xJ (s0 1 3))) hx hb hown hT hE hW cls_X8 (Or.inl (by decide)) (so_1 h0 g _) (by decide) rfl wn202 dX9_readStep_57 ?_
  refine x_rd hW (fun x107 ex107 rx107 => ?_)
  have fx107 : x107 = s0 1 3 := ex107.trans k1_3
  refine x_iconst hx hb dX9_readStep_60 ?_
  refine x_iadd hx hb dX9_readStep_61 ?_
  refine x_putN (j := 3) hx hb hown hT hE hW cls_X8 (by decide) (fun σ => so_1 h0 g σ) (by decide) (st_X8_3 h0 s0 1 (x107 + 1)) (ln_X8_3 h0 _ _) wn202 rfl rfl rfl (by omega) dX9_readStep_62 (fun H locs s108 es108 hW => ?_)
  have q109 : IC s108 := by rw [es108]; exact IC_1 p0 (by omega)
  have q110 : s108 1 1 = s0 1 1 := (show s108 1 1 = s0 1 1 from by rw [es108, xU_j _ _ (by decide)]).trans k1_1
  have q111 : s108 1 2 = s0 1 2 := (show s108 1 2 = s0 1 2 from by rw [es108, xU_j _ _ (by decide)]).trans k1_2
  have q112 : s108 1 3 = (x107 + 1) := by rw [es108, xU_s]
  have q113 : s108 126 2 = s0 126 2 := (show s108 126 2 = s0 126 2 from by rw [es108, xU_k _ _ _ (by omega)]).trans k126_2
  have hF114 := hF.put es108 (by omega)
  exact J65 x106 s108 H locs ls (by omega) hF114 q109 q110 q111 q113 (by omega) (by omega) (by omega) (by first | exact ⟨rfl, rfl⟩ | (rw [es108, xU_k _ _ _ (by omega), xU_k _ _ _ (by omega)]; exact ⟨rfl, rfl⟩)) hW (lv_sub hl [3, 4, 2, 1, 0] rfl)
set_option maxHeartbeats 4000000 in
set_option maxRecDepth 100000 in
theorem c_X9_readStepsW0 (l : Launch) (D : va_G) (g : xG) (T : Nat × Nat × Nat) (h0 : Nat) (s0 : xS) (hσ : xRR s0) (q : Int) (rq : xR q) (Z : Int × Int × (Int → Int)) (st : List (Int × Int × Int)) (hq : q = 0) (hst : st.length = 0) (hat : 0 ≤ s0 1 3 ∧ s0 1 3 ≤ s0 1 2 ∧ s0 1 2 ≤ 80) (hz : zWS (s0 2) (s0 1 2) 1 Z true (s0 1 3) (s0 126 2) (s0 127) st) (p0 : IC s0) : Met l yX9_readSteps (xws yX9_readSteps cX9_readSteps 4 (some .boolean)) { frames := 6, cells := 0, slots := 0, locals := 145 } (xP [.ref (h0 + 126), .int (xJ q)] D g T h0 s0) (xQi D g h0 (fun r τ => xFr (fun k => k = 1 ∨ k = 126 ∨ k = 127) s0 τ ∧ (((IC τ) ∧ (τ 1 1 = s0 1 1) ∧ (τ 1 2 = s0 1 2) ∧ True) ∧ ((r = 1 ∧ zWS (s0 2) (s0 1 2) 1 Z false (τ 1 3) (τ 126 2) (τ 127) st ∧ s0 1 3 + 1 ≤ τ 1 3 ∧ τ 1 3 ≤ s0 1 2 ∧ s0 126 2 < τ 126 2 ∧ τ 1 3 = s0 1 2) ∨ (r = 0 ∧ Z.1 ≠ 0 ∧ τ 1 4 = Z.1))))) 0 0 (xA h0) := by
  refine x_met hσ (by decide) (Nat.le_of_ble_eq_true rfl) ?_
  intro p e s m args below meth c hx hb hr hml hown hT hlk hnm hE hW ls hl
  have hl : lv_has ls 4 [(0, .ref (h0 + 126)), (1, .int (xJ q))] := hl
  obtain ⟨Q, eQ⟩ : ∃ Q, Q = MQ below (xQi D g h0 (fun r τ => xFr (fun k => k = 1 ∨ k = 126 ∨ k = 127) s0 τ ∧ (((IC τ) ∧ (τ 1 1 = s0 1 1) ∧ (τ 1 2 = s0 1 2) ∧ True) ∧ ((r = 1 ∧ zWS (s0 2) (s0 1 2) 1 Z false (τ 1 3) (τ 126 2) (τ 127) st ∧ s0 1 3 + 1 ≤ τ 1 3 ∧ τ 1 3 ≤ s0 1 2 ∧ s0 126 2 < τ 126 2 ∧ τ 1 3 = s0 1 2) ∨ (r = 0 ∧ Z.1 ≠ 0 ∧ τ 1 4 = Z.1))))) args s 0 0 (xA h0) := ⟨_, rfl⟩
  rw [← eQ]
  generalize hHe : ([] : List Loc) = locs at hW ⊢
  obtain ⟨H, eH⟩ : ∃ H, H = s.heap := ⟨_, rfl⟩
  rw [← eH] at hW ⊢
  have hF : xFr (fun k => k = 1 ∨ k = 126 ∨ k = 127) s0 s0 := xFr.rf
  have k1_1 : s0 1 1 = s0 1 1 := rfl
  have k1_2 : s0 1 2 = s0 1 2 := rfl
  refine x_iload_n hx hb hl 1 rfl dX9_readSteps_0 rfl ?_
  refine x_if_ne (tgt := 8) hx hb rq dX9_readSteps_1 (by decide) (fun c1 => False.elim (by omega)) (fun c1 => ?_)
  refine x_iconst hx hb dX9_readSteps_4 ?_
  refine lv_goto (tgt := 10) hx hb dX9_readSteps_5 (by decide) ?_
  refine lv_istore_n (lv' := [(2, .int (xJ (-1))), (0, .ref (h0 + 126)), (1, .int (xJ q))]) hx hb dX9_readSteps_10 rfl hl (by decide) rfl (fun ls hl => ?_)
  refine x_iconst hx hb dX9_readSteps_11 ?_
  refine lv_istore_n (lv' := [(3, .int (xJ 0)), (2, .int (xJ (-1))), (0, .ref (h0 + 126)), (1, .int (xJ q))]) hx hb dX9_readSteps_12 rfl hl (by decide) rfl (fun ls hl => ?_)
  have L13 : ∀ (fu : Nat) (i3_13 : Int) (s_13 : xS) (H : Heap) (locs : List Loc) (ls : Array Slot), (xR i3_13) → (xFr (fun k => k = 1 ∨ k = 126 ∨ k = 127) s0 s_13) → (IC s_13) → (s_13 1 1 = s0 1 1) → (s_13 1 2 = s0 1 2) → (0 ≤ i3_13 ∧ i3_13 ≤ s_13 1 3 - s0 1 3 ∧ s_13 1 3 ≤ s0 1 2 ∧ s0 126 2 + i3_13 ≤ s_13 126 2 ∧ (0 < i3_13 → s_13 1 3 < s0 1 2)) → (zWS (s0 2) (s0 1 2) 1 Z true (s_13 1 3) (s_13 126 2) (s_13 127) st) → (80 - i3_13).toNat < fu → xW D g h0 s H locs s_13 → lv_has ls 4 [(0, .ref (h0 + 126)), (1, .int (xJ q)), (2, .int (xJ (-1))), (3, .int (xJ i3_13))] → W p l e { frames := 6, cells := 0, slots := 0, locals := 145 } s m args below meth c H locs 0 0 Q (F0 m 13 ls []) := by
    intro fu
    induction fu with
    | zero => intro i3_13 s_13 H locs ls ri3_13 hF_13 q13_0 q13_1 q13_2 v13_0 v13_1 hm; exact absurd hm (Nat.not_lt_zero _)
    | succ fu ih13 =>
      intro i3_13 s_13 H locs ls ri3_13 hF_13 q13_0 q13_1 q13_2 v13_0 v13_1 hm hW hl
      refine x_iload_n hx hb hl 3 rfl dX9_readSteps_13 rfl ?_
      refine x_bipush hx hb dX9_readSteps_14 (by decide) ?_
      refine x_icmp_ge (tgt := 48) hx hb ri3_13 (by decide) dX9_readSteps_16 (by decide) (fun c2 => False.elim (by omega)) (fun c2 => ?_)
      refine x_aload_n hx hb hl 0 rfl dX9_readSteps_19 rfl ?_
      refine x_iload_n hx hb hl 1 rfl dX9_readSteps_20 rfl ?_
      refine x_goi (x_runV (As := [.int (xJ q)]) hx hb hml hown hT hE hW hl.1 (Or.inl (by decide)) (so_126 h0 g _) rfl cf_X9_readStep wq725 wq30 wq723 (c_X9_readStepW0 l D g T h0 s_13 hW.2.1 q rq Z st (by omega) (hst) (by omega) (by rw [hF_13 2 (by omega), show s_13 1 2 = s0 1 2 from by omega]; exact v13_1) q13_0) ⟨rfl, rfl, ⟨by decide, by decide⟩, ⟨by decide, by decide⟩⟩ rfl rfl (Nat.le_of_ble_eq_true rfl) dX9_readSteps_21) hW (fun x3 s4 H locs rx3 hp5 hW => ?_)
      obtain ⟨fs4, hp5⟩ := hp5
      have hF6 := hF_13.call fs4 (fun k h => by omega)
      have ghp5 := hp5.2
      have H21 := ghp5
      rw [hF_13 2 (by omega), show s_13 1 2 = s0 1 2 from by omega] at H21
      have G21 : s4 2 = s0 2 := hF6 2 (by omega)
      have Y21 : s4 1 3 < s0 1 2 → 0 ≤ s4 1 3 → 0 ≤ zch (s0 2) (s0 1 2) (s4 1 3) := fun h h9 => by
        have b := (IC.by_ hp5.1.1) (s4 1 3) (by omega) (by omega)
        rw [G21] at b
        rw [← zch_i (Or.inl ⟨h, rfl⟩)]
        exact b.1
      refine x_if_ne (tgt := 29) hx hb rx3 dX9_readSteps_24 (by decide) (fun c7 => ?_) (fun c7 => ?_)
      · skip
        refine x_aload_n hx hb hl 0 rfl dX9_readSteps_29 rfl ?_
        have D21 := (H21.resolve_right (fun q => by omega)).2
        refine x_get (j := 0) (v := .ref (h0 + 1)) hx hb hown hT hE hW cls_X9 (Or.inl (by decide)) (so_126 h0 g _) (by decide) rfl wq307 dX9_readSteps_30 ?_
        refine x_goi (x_runVN (As := []) hx hb hml hown hT hE hW hl.1 (Or.inl (by decide)) (so_1 h0 g _) rfl cf_X8_sign wq581 wq4 wn727 (c_X8_sign l D g T h0 s4 hW.2.1 hp5.1.1) ⟨rfl, rfl, ⟨by decide, by decide⟩, ⟨by decide, by decide⟩⟩ rfl rfl (Nat.le_of_ble_eq_true rfl) dX9_readSteps_33) hW (fun x8 s9 H locs rx8 hp10 hW => ?_)
        obtain ⟨es9, hp10⟩ := hp10
        subst es9
        have ghp10 := hp10
        have C33 : x8 = zch (s0 2) (s0 1 2) (s4 1 3) := zch_i (by have q := congrFun (hF6 2 (by omega)) (s4 1 3); omega)
        have X33 : zch (s0 2) (s0 1 2) (s4 1 3) ≠ -1 → s4 1 3 < s0 1 2 := zch_lt
        refine x_iload_n hx hb hl 2 rfl dX9_readSteps_36 rfl ?_
        refine x_icmp_ne (tgt := 42) hx hb rx8 (by decide) dX9_readSteps_37 (by decide) (fun c11 => ?_) (fun c11 => ?_)
        · skip
          refine x_iinc (lv' := [(3, .int (xJ (i3_13 + 1))), (0, .ref (h0 + 126)), (1, .int (xJ q)), (2, .int (xJ (-1)))]) hx hb hl 3 rfl dX9_readSteps_42 (by decide) rfl (fun ls hl => ?_)
          refine lv_goto (tgt := 13) hx hb dX9_readSteps_45 (by decide) ?_
          exact ih13 (i3_13 + 1) s4 H locs ls (by omega) hF6 hp5.1.1 (hp5.1.2.1.trans q13_1) (hp5.1.2.2.1.trans q13_2) (by omega) (D21.1.more0 hst (by omega)) (by omega) hW (lv_sub hl [1, 2, 3, 0] rfl)
        refine x_iconst hx hb dX9_readSteps_40 ?_
        rw [eQ]
        exact x_zret hx hb hr hlk hW (by omega) ⟨hF6, ⟨hp5.1.1, (hp5.1.2.1.trans q13_1), (hp5.1.2.2.1.trans q13_2), trivial⟩, Or.inl ⟨by omega, D21.1, by omega, by omega, by omega, by omega⟩⟩ dX9_readSteps_41
      refine x_iconst hx hb dX9_readSteps_27 ?_
      rw [eQ]
      exact x_zret hx hb hr hlk hW (by omega) ⟨hF6, ⟨hp5.1.1, (hp5.1.2.1.trans q13_1), (hp5.1.2.2.1.trans q13_2), trivial⟩, H21.elim (fun q => absurd q.1 (by omega)) (fun q => Or.inr ⟨by omega, q.2⟩)⟩ dX9_readSteps_28
  exact L13 ((80 - 0 : Int).toNat + 1) 0 s0 H locs ls (by decide) hF p0 k1_1 k1_2 (by omega) (hz) (Nat.lt_succ_self _) hW (lv_sub hl [2, 3, 1, 0] rfl)
set_option maxHeartbeats 4000000 in
set_option maxRecDepth 100000 in
theorem c_X9_readWholeW (l : Launch) (D : va_G) (g : xG) (T : Nat × Nat × Nat) (h0 : Nat) (s0 : xS) (hσ : xRR s0) (hat : s0 1 3 = 0 ∧ 0 ≤ s0 1 2 ∧ s0 1 2 ≤ 80) (p0 : IC s0) : Met l yX9_readWhole (xws yX9_readWhole cX9_readWhole 1 (some .boolean)) { frames := 7, cells := 0, slots := 0, locals := 168 } (xP [.ref (h0 + 126)] D g T h0 s0) (xQi D g h0 (fun r τ => xFr (fun k => k = 1 ∨ k = 126 ∨ k = 127) s0 τ ∧ (((IC τ) ∧ (τ 1 1 = s0 1 1) ∧ (τ 1 2 = s0 1 2) ∧ True) ∧ ((r = 1 ∧ (zws (s0 2) (s0 1 2) 1 (2 * s0 1 2 + 1).toNat true 0 0 (s0 127) []).1 = 0 ∧ τ 126 2 = (zws (s0 2) (s0 1 2) 1 (2 * s0 1 2 + 1).toNat true 0 0 (s0 127) []).2.1 ∧ τ 127 = (zws (s0 2) (s0 1 2) 1 (2 * s0 1 2 + 1).toNat true 0 0 (s0 127) []).2.2) ∨ (r = 0 ∧ (zws (s0 2) (s0 1 2) 1 (2 * s0 1 2 + 1).toNat true 0 0 (s0 127) []).1 ≠ 0 ∧ τ 1 4 = (zws (s0 2) (s0 1 2) 1 (2 * s0 1 2 + 1).toNat true 0 0 (s0 127) []).1))))) 0 0 (xA h0) := by
  refine x_met hσ (by decide) (Nat.le_of_ble_eq_true rfl) ?_
  intro p e s m args below meth c hx hb hr hml hown hT hlk hnm hE hW ls hl
  have hl : lv_has ls 1 [(0, .ref (h0 + 126))] := hl
  obtain ⟨Q, eQ⟩ : ∃ Q, Q = MQ below (xQi D g h0 (fun r τ => xFr (fun k => k = 1 ∨ k = 126 ∨ k = 127) s0 τ ∧ (((IC τ) ∧ (τ 1 1 = s0 1 1) ∧ (τ 1 2 = s0 1 2) ∧ True) ∧ ((r = 1 ∧ (zws (s0 2) (s0 1 2) 1 (2 * s0 1 2 + 1).toNat true 0 0 (s0 127) []).1 = 0 ∧ τ 126 2 = (zws (s0 2) (s0 1 2) 1 (2 * s0 1 2 + 1).toNat true 0 0 (s0 127) []).2.1 ∧ τ 127 = (zws (s0 2) (s0 1 2) 1 (2 * s0 1 2 + 1).toNat true 0 0 (s0 127) []).2.2) ∨ (r = 0 ∧ (zws (s0 2) (s0 1 2) 1 (2 * s0 1 2 + 1).toNat true 0 0 (s0 127) []).1 ≠ 0 ∧ τ 1 4 = (zws (s0 2) (s0 1 2) 1 (2 * s0 1 2 + 1).toNat true 0 0 (s0 127) []).1))))) args s 0 0 (xA h0) := ⟨_, rfl⟩
  rw [← eQ]
  generalize hHe : ([] : List Loc) = locs at hW ⊢
  obtain ⟨H, eH⟩ : ∃ H, H = s.heap := ⟨_, rfl⟩
  rw [← eH] at hW ⊢
  have hF : xFr (fun k => k = 1 ∨ k = 126 ∨ k = 127) s0 s0 := xFr.rf
  have k1_1 : s0 1 1 = s0 1 1 := rfl
  have k1_2 : s0 1 2 = s0 1 2 := rfl
  have k1_3 : s0 1 3 = s0 1 3 := rfl
  refine x_aload_n hx hb hl 0 rfl dX9_readWhole_0 rfl ?_
  refine x_iconst hx hb dX9_readWhole_1 ?_
  refine x_put (j := 2) hx hb hown hT hE hW cls_X9 (by decide) (fun σ => so_126 h0 g σ) (by decide) (st_X9_2 h0 s0 126 0) (ln_X9_2 h0 _ _) wq309 rfl rfl rfl (by decide) dX9_readWhole_2 (fun H locs s1 es1 hW => ?_)
  have q2 : IC s1 := by rw [es1]; exact IC_126 p0 (by omega)
  have q3 : s1 1 1 = s0 1 1 := (show s1 1 1 = s0 1 1 from by rw [es1, xU_k _ _ _ (by omega)]).trans k1_1
  have q4 : s1 1 2 = s0 1 2 := (show s1 1 2 = s0 1 2 from by rw [es1, xU_k _ _ _ (by omega)]).trans k1_2
  have q5 : s1 1 3 = s0 1 3 := (show s1 1 3 = s0 1 3 from by rw [es1, xU_k _ _ _ (by omega)]).trans k1_3
  have q6 : s1 126 2 = 0 := by rw [es1, xU_s]
  have hF7 := hF.put es1 (by omega)
  have G2 : s1 2 = s0 2 := hF7 2 (by omega)
  have N2 : s1 1 2 = s0 1 2 := q4
  have O2 : zWS (s1 2) (s1 1 2) 1 (zws (s0 2) (s0 1 2) 1 (2 * s0 1 2 + 1).toNat true 0 0 (s0 127) []) true (s1 1 3) (s1 126 2) (s1 127) [] := by
    rw [G2, N2, show s1 1 3 = 0 from by omega, show s1 126 2 = 0 from by omega, show s1 127 = s0 127 from by rw [es1, xU_k _ _ _ (by omega)]]
    exact zWS.new _ _ _ _ _
  refine x_aload_n hx hb hl 0 rfl dX9_readWhole_5 rfl ?_
  refine x_iconst hx hb dX9_readWhole_6 ?_
  refine x_goi (x_runV (As := [.int (xJ 0)]) hx hb hml hown hT hE hW hl.1 (Or.inl (by decide)) (so_126 h0 g _) rfl cf_X9_readSteps wq721 wq29 wq719 (c_X9_readStepsW0 l D g T h0 s1 hW.2.1 0 (by decide) (zws (s0 2) (s0 1 2) 1 (2 * s0 1 2 + 1).toNat true 0 0 (s0 127) []) ([] : List (Int × Int × Int)) (by omega) (rfl) (by omega) (O2) q2) ⟨rfl, rfl, ⟨by decide, by decide⟩, ⟨by decide, by decide⟩⟩ rfl rfl (Nat.le_of_ble_eq_true rfl) dX9_readWhole_7) hW (fun x8 s9 H locs rx8 hp10 hW => ?_)
  obtain ⟨fs9, hp10⟩ := hp10
  have hF11 := hF7.call fs9 (fun k h => by omega)
  have ghp10 := hp10.2
  have H7 := ghp10
  rw [G2, N2] at H7
  rw [eQ]
  exact x_zret hx hb hr hlk hW (by omega) ⟨hF11, ⟨hp10.1.1, (hp10.1.2.1.trans q3), (hp10.1.2.2.1.trans q4), trivial⟩, H7.elim (fun q => Or.inl (by have z := q.2.1.fin0 rfl q.2.2.2.2.2; rw [z]; exact ⟨q.1, rfl, rfl, rfl⟩)) Or.inr⟩ dX9_readWhole_10

set_option maxHeartbeats 4000000 in
set_option maxRecDepth 100000 in
theorem c_X11_wayOfW (l : Launch) (D : va_G) (g : xG) (T : Nat × Nat × Nat) (h0 : Nat) (s0 : xS) (hσ : xRR s0) (x : Int) (rx : xR x) : Met l yX11_wayOf (xws yX11_wayOf cX11_wayOf 1 (some .int)) { frames := 0, cells := 0, slots := 0, locals := 0 } (xP [.int (xJ x)] D g T h0 s0) (xQi D g h0 (fun r τ => s0 = τ ∧ ((x = 110 ∧ r = 0) ∨ (x = 101 ∧ r = 2) ∨ (x = 115 ∧ r = 4) ∨ (x = 119 ∧ r = 6) ∨ (x = 46 ∧ r = 8) ∨ (x ≠ 110 ∧ x ≠ 101 ∧ x ≠ 115 ∧ x ≠ 119 ∧ x ≠ 46 ∧ r = -1)))) 0 0 (xA h0) := by
  refine x_met hσ (by decide) (Nat.le_of_ble_eq_true rfl) ?_
  intro p e s m args below meth c hx hb hr hml hown hT hlk hnm hE hW ls hl
  have hl : lv_has ls 1 [(0, .int (xJ x))] := hl
  obtain ⟨Q, eQ⟩ : ∃ Q, Q = MQ below (xQi D g h0 (fun r τ => s0 = τ ∧ ((x = 110 ∧ r = 0) ∨ (x = 101 ∧ r = 2) ∨ (x = 115 ∧ r = 4) ∨ (x = 119 ∧ r = 6) ∨ (x = 46 ∧ r = 8) ∨ (x ≠ 110 ∧ x ≠ 101 ∧ x ≠ 115 ∧ x ≠ 119 ∧ x ≠ 46 ∧ r = -1)))) args s 0 0 (xA h0) := ⟨_, rfl⟩
  rw [← eQ]
  generalize hHe : ([] : List Loc) = locs at hW ⊢
  obtain ⟨H, eH⟩ : ∃ H, H = s.heap := ⟨_, rfl⟩
  rw [← eH] at hW ⊢
  refine x_iload_n hx hb hl 0 rfl dX11_wayOf_0 rfl ?_
  rcases (show (x ≠ 46 ∧ x ≠ 101 ∧ x ≠ 110 ∧ x ≠ 115 ∧ x ≠ 119) ∨ x = 46 ∨ x = 101 ∨ x = 110 ∨ x = 115 ∨ x = 119 from by omega) with c1 | c1 | c1 | c1 | c1 | c1
  · refine x_look (tgt := 64) (off := 63) hx hb rx dX11_wayOf_1 rfl (xlk_n (by simp; omega)) (by decide) ?_
    refine x_iconst hx hb dX11_wayOf_64 ?_
    rw [eQ]
    exact x_iret hx hb hr hlk hW (by decide) ⟨rfl, by omega⟩ dX11_wayOf_65
  · refine x_look (tgt := 61) (off := 60) hx hb rx dX11_wayOf_1 rfl (by rw [c1]; rfl) (by decide) ?_
    refine x_bipush hx hb dX11_wayOf_61 (by decide) ?_
    rw [eQ]
    exact x_iret hx hb hr hlk hW (by decide) ⟨rfl, by omega⟩ dX11_wayOf_63
  · refine x_look (tgt := 54) (off := 53) hx hb rx dX11_wayOf_1 rfl (by rw [c1]; rfl) (by decide) ?_
    refine x_iconst hx hb dX11_wayOf_54 ?_
    rw [eQ]
    exact x_iret hx hb hr hlk hW (by decide) ⟨rfl, by omega⟩ dX11_wayOf_55
  · refine x_look (tgt := 52) (off := 51) hx hb rx dX11_wayOf_1 rfl (by rw [c1]; rfl) (by decide) ?_
    refine x_iconst hx hb dX11_wayOf_52 ?_
    rw [eQ]
    exact x_iret hx hb hr hlk hW (by decide) ⟨rfl, by omega⟩ dX11_wayOf_53
  · refine x_look (tgt := 56) (off := 55) hx hb rx dX11_wayOf_1 rfl (by rw [c1]; rfl) (by decide) ?_
    refine x_iconst hx hb dX11_wayOf_56 ?_
    rw [eQ]
    exact x_iret hx hb hr hlk hW (by decide) ⟨rfl, by omega⟩ dX11_wayOf_57
  · refine x_look (tgt := 58) (off := 57) hx hb rx dX11_wayOf_1 rfl (by rw [c1]; rfl) (by decide) ?_
    refine x_bipush hx hb dX11_wayOf_58 (by decide) ?_
    rw [eQ]
    exact x_iret hx hb hr hlk hW (by decide) ⟨rfl, by omega⟩ dX11_wayOf_60
set_option maxHeartbeats 4000000 in
set_option maxRecDepth 100000 in
theorem c_X11_wrongAtW (l : Launch) (D : va_G) (g : xG) (T : Nat × Nat × Nat) (h0 : Nat) (s0 : xS) (hσ : xRR s0) (a : Int) (ra : xR a) (b : Int) (rb : xR b) (hab : 0 ≤ a ∧ a ≤ 9 ∧ 0 ≤ b ∧ b ≤ 300) (p0 : IMn s0) (p1 : IMk s0) (p2 : IMo s0) (p3 : IR s0) : Met l yX11_wrongAt (xws yX11_wrongAt cX11_wrongAt 3 (some .boolean)) { frames := 0, cells := 0, slots := 0, locals := 0 } (xP [.ref (h0 + 268), .int (xJ a), .int (xJ b)] D g T h0 s0) (xQi D g h0 (fun r τ => xFr (fun k => k = 268) s0 τ ∧ (((IMn τ) ∧ (IMk τ) ∧ (IMo τ) ∧ (IR τ) ∧ (τ 268 8 = s0 268 8) ∧ (τ 268 58 = s0 268 58) ∧ (τ 268 10 = s0 268 10) ∧ (τ 268 9 = s0 268 9) ∧ (τ 268 34 = s0 268 34) ∧ (τ 268 35 = s0 268 35) ∧ (τ 268 36 = s0 268 36) ∧ (τ 268 37 = s0 268 37) ∧ (τ 268 17 = s0 268 17) ∧ (τ 268 48 = s0 268 48) ∧ True) ∧ (r = 0 ∧ τ 268 11 = -1000 * a - b)))) 0 0 (xA h0) := by
  refine x_met hσ (by decide) (Nat.le_of_ble_eq_true rfl) ?_
  intro p e s m args below meth c hx hb hr hml hown hT hlk hnm hE hW ls hl
  have hl : lv_has ls 3 [(0, .ref (h0 + 268)), (1, .int (xJ a)), (2, .int (xJ b))] := hl
  obtain ⟨Q, eQ⟩ : ∃ Q, Q = MQ below (xQi D g h0 (fun r τ => xFr (fun k => k = 268) s0 τ ∧ (((IMn τ) ∧ (IMk τ) ∧ (IMo τ) ∧ (IR τ) ∧ (τ 268 8 = s0 268 8) ∧ (τ 268 58 = s0 268 58) ∧ (τ 268 10 = s0 268 10) ∧ (τ 268 9 = s0 268 9) ∧ (τ 268 34 = s0 268 34) ∧ (τ 268 35 = s0 268 35) ∧ (τ 268 36 = s0 268 36) ∧ (τ 268 37 = s0 268 37) ∧ (τ 268 17 = s0 268 17) ∧ (τ 268 48 = s0 268 48) ∧ True) ∧ (r = 0 ∧ τ 268 11 = -1000 * a - b)))) args s 0 0 (xA h0) := ⟨_, rfl⟩
  rw [← eQ]
  generalize hHe : ([] : List Loc) = locs at hW ⊢
  obtain ⟨H, eH⟩ : ∃ H, H = s.heap := ⟨_, rfl⟩
  rw [← eH] at hW ⊢
  have hF : xFr (fun k => k = 268) s0 s0 := xFr.rf
  have k268_8 : s0 268 8 = s0 268 8 := rfl
  have k268_58 : s0 268 58 = s0 268 58 := rfl
  have k268_10 : s0 268 10 = s0 268 10 := rfl
  have k268_9 : s0 268 9 = s0 268 9 := rfl
  have k268_34 : s0 268 34 = s0 268 34 := rfl
  have k268_35 : s0 268 35 = s0 268 35 := rfl
  have k268_36 : s0 268 36 = s0 268 36 := rfl
  have k268_37 : s0 268 37 = s0 268 37 := rfl
  have k268_17 : s0 268 17 = s0 268 17 := rfl
  have k268_48 : s0 268 48 = s0 268 48 := rfl
  refine x_aload_n hx hb hl 0 rfl dX11_wrongAt_0 rfl ?_
  refine x_sipush hx hb dX11_wrongAt_1 (by decide) ?_
  refine x_iload_n hx hb hl 1 rfl dX11_wrongAt_4 rfl ?_
  refine x_imul hx hb dX11_wrongAt_5 ?_
  refine x_iload_n hx hb hl 2 rfl dX11_wrongAt_6 rfl ?_
  refine x_isub hx hb dX11_wrongAt_7 ?_
  refine x_put (j := 11) hx hb hown hT hE hW cls_X11 (by decide) (fun σ => so_268 h0 g σ) (by decide) (st_X11_11 h0 s0 268 (((-1000) * a) - b)) (ln_X11_11 h0 _ _) wq1196 rfl rfl rfl (by omega) dX11_wrongAt_8 (fun H locs s1 es1 hW => ?_)
  have q2 : IMn s1 := by rw [es1]; exact IMn_268 p0 (by omega)
  have q3 : IMk s1 := by rw [es1]; exact IMk_268 p1 (by omega)
  have q4 : IMo s1 := by rw [es1]; exact IMo_o (by unfold suIMo; omega) p2
  have q5 : IR s1 := by rw [es1]; exact IR_268 p3 (by omega)
  have q6 : s1 268 8 = s0 268 8 := (show s1 268 8 = s0 268 8 from by rw [es1, xU_j _ _ (by decide)]).trans k268_8
  have q7 : s1 268 58 = s0 268 58 := (show s1 268 58 = s0 268 58 from by rw [es1, xU_j _ _ (by decide)]).trans k268_58
  have q8 : s1 268 10 = s0 268 10 := (show s1 268 10 = s0 268 10 from by rw [es1, xU_j _ _ (by decide)]).trans k268_10
  have q9 : s1 268 9 = s0 268 9 := (show s1 268 9 = s0 268 9 from by rw [es1, xU_j _ _ (by decide)]).trans k268_9
  have q10 : s1 268 34 = s0 268 34 := (show s1 268 34 = s0 268 34 from by rw [es1, xU_j _ _ (by decide)]).trans k268_34
  have q11 : s1 268 35 = s0 268 35 := (show s1 268 35 = s0 268 35 from by rw [es1, xU_j _ _ (by decide)]).trans k268_35
  have q12 : s1 268 36 = s0 268 36 := (show s1 268 36 = s0 268 36 from by rw [es1, xU_j _ _ (by decide)]).trans k268_36
  have q13 : s1 268 37 = s0 268 37 := (show s1 268 37 = s0 268 37 from by rw [es1, xU_j _ _ (by decide)]).trans k268_37
  have q14 : s1 268 17 = s0 268 17 := (show s1 268 17 = s0 268 17 from by rw [es1, xU_j _ _ (by decide)]).trans k268_17
  have q15 : s1 268 48 = s0 268 48 := (show s1 268 48 = s0 268 48 from by rw [es1, xU_j _ _ (by decide)]).trans k268_48
  have q16 : s1 268 11 = (((-1000) * a) - b) := by rw [es1, xU_s]
  have hF17 := hF.put es1 (by omega)
  refine x_iconst hx hb dX11_wrongAt_11 ?_
  rw [eQ]
  exact x_zret hx hb hr hlk hW (by omega) ⟨hF17, ⟨q2, q3, q4, q5, q6, q7, q8, q9, q10, q11, q12, q13, q14, q15, trivial⟩, by omega⟩ dX11_wrongAt_12
set_option maxHeartbeats 4000000 in
set_option maxRecDepth 100000 in
theorem c_X11_readsTimesW (l : Launch) (D : va_G) (g : xG) (T : Nat × Nat × Nat) (h0 : Nat) (s0 : xS) (hσ : xRR s0) (p0 : IMn s0) (p1 : IMk s0) (p2 : IMo s0) (p3 : IR s0) : Met l yX11_readsTimes (xws yX11_readsTimes cX11_readsTimes 1 none) { frames := 1, cells := 0, slots := 0, locals := 22 } (xP [.ref (h0 + 268)] D g T h0 s0) (xQv D g h0 (fun τ => xFr (fun k => k = 268) s0 τ ∧ (((IMn τ) ∧ (IMk τ) ∧ (IMo τ) ∧ (IR τ) ∧ (τ 268 8 = s0 268 8) ∧ (τ 268 58 = s0 268 58) ∧ (τ 268 10 = s0 268 10) ∧ (τ 268 34 = s0 268 34) ∧ (τ 268 35 = s0 268 35) ∧ (τ 268 17 = s0 268 17) ∧ (τ 268 48 = s0 268 48) ∧ True) ∧ (τ 268 36 = s0 268 9 ∧ τ 268 37 = wtm (zch (xm8 (s0 276)) (s0 268 10) (s0 268 9)) ∧ τ 268 9 = wp1 (xm8 (s0 276)) (s0 268 10) (s0 268 9))))) 0 0 (xA h0) := by
  refine x_met hσ (by decide) (Nat.le_of_ble_eq_true rfl) ?_
  intro p e s m args below meth c hx hb hr hml hown hT hlk hnm hE hW ls hl
  have hl : lv_has ls 1 [(0, .ref (h0 + 268))] := hl
  obtain ⟨Q, eQ⟩ : ∃ Q, Q = MQ below (xQv D g h0 (fun τ => xFr (fun k => k = 268) s0 τ ∧ (((IMn τ) ∧ (IMk τ) ∧ (IMo τ) ∧ (IR τ) ∧ (τ 268 8 = s0 268 8) ∧ (τ 268 58 = s0 268 58) ∧ (τ 268 10 = s0 268 10) ∧ (τ 268 34 = s0 268 34) ∧ (τ 268 35 = s0 268 35) ∧ (τ 268 17 = s0 268 17) ∧ (τ 268 48 = s0 268 48) ∧ True) ∧ (τ 268 36 = s0 268 9 ∧ τ 268 37 = wtm (zch (xm8 (s0 276)) (s0 268 10) (s0 268 9)) ∧ τ 268 9 = wp1 (xm8 (s0 276)) (s0 268 10) (s0 268 9))))) args s 0 0 (xA h0) := ⟨_, rfl⟩
  rw [← eQ]
  generalize hHe : ([] : List Loc) = locs at hW ⊢
  obtain ⟨H, eH⟩ : ∃ H, H = s.heap := ⟨_, rfl⟩
  rw [← eH] at hW ⊢
  have hF : xFr (fun k => k = 268) s0 s0 := xFr.rf
  have k268_8 : s0 268 8 = s0 268 8 := rfl
  have k268_58 : s0 268 58 = s0 268 58 := rfl
  have k268_10 : s0 268 10 = s0 268 10 := rfl
  have k268_34 : s0 268 34 = s0 268 34 := rfl
  have k268_35 : s0 268 35 = s0 268 35 := rfl
  have k268_17 : s0 268 17 = s0 268 17 := rfl
  have k268_48 : s0 268 48 = s0 268 48 := rfl
  have k268_9 : s0 268 9 = s0 268 9 := rfl
  refine x_aload_n hx hb hl 0 rfl dX11_readsTimes_0 rfl ?_
  refine x_aload_n hx hb hl 0 rfl dX11_readsTimes_1 rfl ?_
  refine x_get (j := 9) (v := .int (xJ (s0 268 9))) hx hb hown hT hE hW cls_X11 (Or.inl (by decide)) (so_268 h0 g _) (by decide) rfl wq1194 dX11_readsTimes_2 ?_
  refine x_rd hW (fun x1 ex1 rx1 => ?_)
  have bx1 : 0 ≤ x1 ∧ x1 ≤ s0 268 10 ∧ s0 268 10 ≤ 240 := by rw [ex1]; exact p3
  have fx1 : x1 = s0 268 9 := ex1.trans k268_9
  refine x_put (j := 36) hx hb hown hT hE hW cls_X11 (by decide) (fun σ => so_268 h0 g σ) (by decide) (st_X11_36 h0 s0 268 x1) (ln_X11_36 h0 _ _) wq1221 rfl rfl rfl rx1 dX11_readsTimes_5 (fun H locs s2 es2 hW => ?_)
  have q3 : IMn s2 := by rw [es2]; exact IMn_268 p0 (by omega)
  have q4 : IMk s2 := by rw [es2]; exact IMk_268 p1 (by omega)
  have q5 : IMo s2 := by rw [es2]; exact IMo_o (by unfold suIMo; omega) p2
  have q6 : IR s2 := by rw [es2]; exact IR_268 p3 (by omega)
  have q7 : s2 268 8 = s0 268 8 := (show s2 268 8 = s0 268 8 from by rw [es2, xU_j _ _ (by decide)]).trans k268_8
  have q8 : s2 268 58 = s0 268 58 := (show s2 268 58 = s0 268 58 from by rw [es2, xU_j _ _ (by decide)]).trans k268_58
  have q9 : s2 268 10 = s0 268 10 := (show s2 268 10 = s0 268 10 from by rw [es2, xU_j _ _ (by decide)]).trans k268_10
  have q10 : s2 268 34 = s0 268 34 := (show s2 268 34 = s0 268 34 from by rw [es2, xU_j _ _ (by decide)]).trans k268_34
  have q11 : s2 268 35 = s0 268 35 := (show s2 268 35 = s0 268 35 from by rw [es2, xU_j _ _ (by decide)]).trans k268_35
  have q12 : s2 268 17 = s0 268 17 := (show s2 268 17 = s0 268 17 from by rw [es2, xU_j _ _ (by decide)]).trans k268_17
  have q13 : s2 268 48 = s0 268 48 := (show s2 268 48 = s0 268 48 from by rw [es2, xU_j _ _ (by decide)]).trans k268_48
  have q14 : s2 268 9 = s0 268 9 := (show s2 268 9 = s0 268 9 from by rw [es2, xU_j _ _ (by decide)]).trans k268_9
  have q15 : s2 268 36 = x1 := by rw [es2, xU_s]
  have hF16 := hF.put es2 (by omega)
  refine x_aload_n hx hb hl 0 rfl dX11_readsTimes_8 rfl ?_
  refine x_iconst hx hb dX11_readsTimes_9 ?_
  refine x_put (j := 37) hx hb hown hT hE hW cls_X11 (by decide) (fun σ => so_268 h0 g σ) (by decide) (st_X11_37 h0 s2 268 1) (ln_X11_37 h0 _ _) wq1222 rfl rfl rfl (by decide) dX11_readsTimes_10 (fun H locs s17 es17 hW => ?_)
  have q18 : IMn s17 := by rw [es17]; exact IMn_268 q3 (by omega)
  have q19 : IMk s17 := by rw [es17]; exact IMk_268 q4 (by omega)
  have q20 : IMo s17 := by rw [es17]; exact IMo_o (by unfold suIMo; omega) q5
  have q21 : IR s17 := by rw [es17]; exact IR_268 q6 (by omega)
  have q22 : s17 268 8 = s0 268 8 := (show s17 268 8 = s2 268 8 from by rw [es17, xU_j _ _ (by decide)]).trans q7
  have q23 : s17 268 58 = s0 268 58 := (show s17 268 58 = s2 268 58 from by rw [es17, xU_j _ _ (by decide)]).trans q8
  have q24 : s17 268 10 = s0 268 10 := (show s17 268 10 = s2 268 10 from by rw [es17, xU_j _ _ (by decide)]).trans q9
  have q25 : s17 268 34 = s0 268 34 := (show s17 268 34 = s2 268 34 from by rw [es17, xU_j _ _ (by decide)]).trans q10
  have q26 : s17 268 35 = s0 268 35 := (show s17 268 35 = s2 268 35 from by rw [es17, xU_j _ _ (by decide)]).trans q11
  have q27 : s17 268 17 = s0 268 17 := (show s17 268 17 = s2 268 17 from by rw [es17, xU_j _ _ (by decide)]).trans q12
  have q28 : s17 268 48 = s0 268 48 := (show s17 268 48 = s2 268 48 from by rw [es17, xU_j _ _ (by decide)]).trans q13
  have q29 : s17 268 9 = s0 268 9 := (show s17 268 9 = s2 268 9 from by rw [es17, xU_j _ _ (by decide)]).trans q14
  have q30 : s17 268 36 = x1 := (show s17 268 36 = s2 268 36 from by rw [es17, xU_j _ _ (by decide)]).trans q15
  have q31 : s17 268 37 = 1 := by rw [es17, xU_s]
  have hF32 := hF16.put es17 (by omega)
  refine x_aload_n hx hb hl 0 rfl dX11_readsTimes_13 rfl ?_
  refine x_goi (x_runV (As := []) hx hb hml hown hT hE hW hl.1 (Or.inl (by decide)) (so_268 h0 g _) rfl cf_X11_here wq1391 wq106 wq1389 (c_X11_here l D g T h0 s17 hW.2.1 q18 q19 q20 q21) ⟨rfl, rfl, ⟨by decide, by decide⟩, ⟨by decide, by decide⟩⟩ rfl rfl (Nat.le_of_ble_eq_true rfl) dX11_readsTimes_14) hW (fun x33 s34 H locs rx33 hp35 hW => ?_)
  obtain ⟨es34, hp35⟩ := hp35
  subst es34
  have ghp35 := hp35
  obtain ⟨c14, ec14⟩ : ∃ c : Int, c = x33 := ⟨_, rfl⟩
  have C14 : c14 = zch (xm8 (s0 276)) (s0 268 10) (s17 268 9) := by rw [ec14, ← hF32 276 (by omega), ← q24]; exact ghp35.1
  have B14 := ghp35.2
  have T14 := wtm_cs c14
  have P14 := wp1_cs (xm8 (s0 276)) (s0 268 10) (s0 268 9)
  have Q14 : s17 268 9 = s0 268 9 := q29
  rw [Q14] at C14
  rw [← C14] at P14
  refine x_bipush hx hb dX11_readsTimes_17 (by decide) ?_
  refine x_bipush hx hb dX11_readsTimes_19 (by decide) ?_
  refine x_goi (x_runS (As := [.int (xJ x33), .int (xJ 50), .int (xJ 57)]) hx hb hml hown hT hE hW hl.1 cf_X11_in wq1383 wq1382 (c_X11_in l D g T h0 s17 hW.2.1 x33 rx33 50 (by decide) 57 (by decide)) ⟨rfl, rfl, ⟨by decide, by decide⟩, ⟨by decide, by decide⟩⟩ rfl rfl (Nat.le_of_ble_eq_true rfl) dX11_readsTimes_21) hW (fun x36 s37 H locs rx36 hp38 hW => ?_)
  obtain ⟨es37, hp38⟩ := hp38
  subst es37
  have ghp38 := hp38
  refine x_if_ne (tgt := 28) hx hb rx36 dX11_readsTimes_24 (by decide) (fun c39 => ?_) (fun c39 => ?_)
  · skip
    refine x_aload_n hx hb hl 0 rfl dX11_readsTimes_28 rfl ?_
    refine x_aload_n hx hb hl 0 rfl dX11_readsTimes_29 rfl ?_
    refine x_goi (x_runV (As := []) hx hb hml hown hT hE hW hl.1 (Or.inl (by decide)) (so_268 h0 g _) rfl cf_X11_here wq1391 wq106 wq1389 (c_X11_here l D g T h0 s17 hW.2.1 q18 q19 q20 q21) ⟨rfl, rfl, ⟨by decide, by decide⟩, ⟨by decide, by decide⟩⟩ rfl rfl (Nat.le_of_ble_eq_true rfl) dX11_readsTimes_30) hW (fun x40 s41 H locs rx40 hp42 hW => ?_)
    obtain ⟨es41, hp42⟩ := hp42
    subst es41
    have ghp42 := hp42
    obtain ⟨c30, ec30⟩ : ∃ c : Int, c = x40 := ⟨_, rfl⟩
    have C30 : c30 = zch (xm8 (s0 276)) (s0 268 10) (s17 268 9) := by rw [ec30, ← hF32 276 (by omega), ← q24]; exact ghp42.1
    have B30 := ghp42.2
    refine x_bipush hx hb dX11_readsTimes_33 (by decide) ?_
    refine x_isub hx hb dX11_readsTimes_35 ?_
    refine x_put (j := 37) hx hb hown hT hE hW cls_X11 (by decide) (fun σ => so_268 h0 g σ) (by decide) (st_X11_37 h0 s17 268 (x40 - 48)) (ln_X11_37 h0 _ _) wq1222 rfl rfl rfl (by omega) dX11_readsTimes_36 (fun H locs s43 es43 hW => ?_)
    have q44 : IMn s43 := by rw [es43]; exact IMn_268 q18 (by omega)
    have q45 : IMk s43 := by rw [es43]; exact IMk_268 q19 (by omega)
    have q46 : IMo s43 := by rw [es43]; exact IMo_o (by unfold suIMo; omega) q20
    have q47 : IR s43 := by rw [es43]; exact IR_268 q21 (by omega)
    have q48 : s43 268 8 = s0 268 8 := (show s43 268 8 = s17 268 8 from by rw [es43, xU_j _ _ (by decide)]).trans q22
    have q49 : s43 268 58 = s0 268 58 := (show s43 268 58 = s17 268 58 from by rw [es43, xU_j _ _ (by decide)]).trans q23
    have q50 : s43 268 10 = s0 268 10 := (show s43 268 10 = s17 268 10 from by rw [es43, xU_j _ _ (by decide)]).trans q24
    have q51 : s43 268 34 = s0 268 34 := (show s43 268 34 = s17 268 34 from by rw [es43, xU_j _ _ (by decide)]).trans q25
    have q52 : s43 268 35 = s0 268 35 := (show s43 268 35 = s17 268 35 from by rw [es43, xU_j _ _ (by decide)]).trans q26
    have q53 : s43 268 17 = s0 268 17 := (show s43 268 17 = s17 268 17 from by rw [es43, xU_j _ _ (by decide)]).trans q27
    have q54 : s43 268 48 = s0 268 48 := (show s43 268 48 = s17 268 48 from by rw [es43, xU_j _ _ (by decide)]).trans q28
    have q55 : s43 268 9 = s0 268 9 := (show s43 268 9 = s17 268 9 from by rw [es43, xU_j _ _ (by decide)]).trans q29
    have q56 : s43 268 36 = x1 := (show s43 268 36 = s17 268 36 from by rw [es43, xU_j _ _ (by decide)]).trans q30
    have q57 : s43 268 37 = (x40 - 48) := by rw [es43, xU_s]
    have hF58 := hF32.put es43 (by omega)
    refine x_aload_n hx hb hl 0 rfl dX11_readsTimes_39 rfl ?_
    refine x_aload_n hx hb hl 0 rfl dX11_readsTimes_40 rfl ?_
    refine x_get (j := 9) (v := .int (xJ (s43 268 9))) hx hb hown hT hE hW cls_X11 (Or.inl (by decide)) (so_268 h0 g _) (by decide) rfl wq1194 dX11_readsTimes_41 ?_
    refine x_rd hW (fun x59 ex59 rx59 => ?_)
    have bx59 : 0 ≤ x59 ∧ x59 ≤ s43 268 10 ∧ s43 268 10 ≤ 240 := by rw [ex59]; exact q47
    have fx59 : x59 = s0 268 9 := ex59.trans q55
    refine x_iconst hx hb dX11_readsTimes_44 ?_
    refine x_iadd hx hb dX11_readsTimes_45 ?_
    refine x_put (j := 9) hx hb hown hT hE hW cls_X11 (by decide) (fun σ => so_268 h0 g σ) (by decide) (st_X11_9 h0 s43 268 (x59 + 1)) (ln_X11_9 h0 _ _) wq1194 rfl rfl rfl (by omega) dX11_readsTimes_46 (fun H locs s60 es60 hW => ?_)
    have q61 : IMn s60 := by rw [es60]; exact IMn_268 q44 (by omega)
    have q62 : IMk s60 := by rw [es60]; exact IMk_268 q45 (by omega)
    have q63 : IMo s60 := by rw [es60]; exact IMo_o (by unfold suIMo; omega) q46
    have q64 : IR s60 := by rw [es60]; exact IR_268 q47 (by omega)
    have q65 : s60 268 8 = s0 268 8 := (show s60 268 8 = s43 268 8 from by rw [es60, xU_j _ _ (by decide)]).trans q48
    have q66 : s60 268 58 = s0 268 58 := (show s60 268 58 = s43 268 58 from by rw [es60, xU_j _ _ (by decide)]).trans q49
    have q67 : s60 268 10 = s0 268 10 := (show s60 268 10 = s43 268 10 from by rw [es60, xU_j _ _ (by decide)]).trans q50
    have q68 : s60 268 34 = s0 268 34 := (show s60 268 34 = s43 268 34 from by rw [es60, xU_j _ _ (by decide)]).trans q51
    have q69 : s60 268 35 = s0 268 35 := (show s60 268 35 = s43 268 35 from by rw [es60, xU_j _ _ (by decide)]).trans q52
    have q70 : s60 268 17 = s0 268 17 := (show s60 268 17 = s43 268 17 from by rw [es60, xU_j _ _ (by decide)]).trans q53
    have q71 : s60 268 48 = s0 268 48 := (show s60 268 48 = s43 268 48 from by rw [es60, xU_j _ _ (by decide)]).trans q54
    have q72 : s60 268 9 = (x59 + 1) := by rw [es60, xU_s]
    have q73 : s60 268 36 = x1 := (show s60 268 36 = s43 268 36 from by rw [es60, xU_j _ _ (by decide)]).trans q56
    have q74 : s60 268 37 = (x40 - 48) := (show s60 268 37 = s43 268 37 from by rw [es60, xU_j _ _ (by decide)]).trans q57
    have hF75 := hF58.put es60 (by omega)
    rw [eQ]
    exact x_vret hx hb hr hlk hW ⟨hF75, ⟨q61, q62, q63, q64, q65, q66, q67, q68, q69, q70, q71, trivial⟩, ⟨by omega, by rw [← C14]; omega, by omega⟩⟩ dX11_readsTimes_49
  rw [eQ]
  exact x_vret hx hb hr hlk hW ⟨hF32, ⟨q18, q19, q20, q21, q22, q23, q24, q25, q26, q27, q28, trivial⟩, ⟨by omega, by rw [← C14]; omega, by omega⟩⟩ dX11_readsTimes_27

/-! ===== the machine's own arithmetic, with its value ===== -/
def zwp (z : Int) : Int := (xJ z).toInt
def zdv (a b : Int) : Int := (xJ a / xJ b).toInt
def zrm (a b : Int) : Int := (xJ a - xJ a / xJ b * xJ b).toInt
theorem zwp_id {z : Int} (h : xR z) : zwp z = z := xJ_toInt h
section X10
variable {p : Program} {l : Launch} {e : Env} {R : Room} {s : State} {m : MethodId} {args : Array Value} {below : List Frame} {meth : Method} {c : Code} {H : Heap} {locs : List Loc} {cells slots : Nat} {Q : State → Prop}
variable {cc : ByteArray} {pc : Nat} {ls : Array Slot} {rest : List Value}
theorem x_wv {z : Int} (kk : ∀ v : Int, v = zwp z → xR v → W p l e R s m args below meth c H locs cells slots Q (F0 m pc ls (.int (xJ v) :: rest))) : W p l e R s m args below meth c H locs cells slots Q (F0 m pc ls (.int (xJ z) :: rest)) := by
  have h := kk (zwp z) rfl (xR_of _)
  unfold zwp at h
  rw [xJ_of] at h
  exact h
theorem x_idivE (hx : p.tables.exec = Jvm.exec) (hb : c.code = cc) {a b : Int} (hb2 : xR b) (h1 : b ≠ 0) (hdg : decode cc pc = .ok (.idiv, 1)) (k : ∀ v : Int, v = zdv a b → xR v → W p l e R s m args below meth c H locs cells slots Q (F0 m (pc + 1) ls (.int (xJ v) :: rest))) : W p l e R s m args below meth c H locs cells slots Q (F0 m pc ls (.int (xJ b) :: .int (xJ a) :: rest)) := lv_idiv hx hb hdg (xJ_ne0 hb2 h1) (by
  have h := k (zdv a b) rfl (xR_of _)
  unfold zdv at h
  rw [xJ_of] at h
  exact h)
theorem x_iremE (hx : p.tables.exec = Jvm.exec) (hb : c.code = cc) {a b : Int} (hb2 : xR b) (h1 : b ≠ 0) (hdg : decode cc pc = .ok (.irem, 1)) (k : ∀ v : Int, v = zrm a b → xR v → W p l e R s m args below meth c H locs cells slots Q (F0 m (pc + 1) ls (.int (xJ v) :: rest))) : W p l e R s m args below meth c H locs cells slots Q (F0 m pc ls (.int (xJ b) :: .int (xJ a) :: rest)) := lv_irem hx hb hdg (xJ_ne0 hb2 h1) (by
  have h := k (zrm a b) rfl (xR_of _)
  unfold zrm at h
  rw [xJ_of] at h
  exact h)
end X10
/-! ===== what a law's code comes to ===== -/
def zrk (o x y : Int) : Int := if o = 2 then zwp (x + y) else if o = 3 then zwp (x - y) else if o = 4 then zwp (x * y) else if o = 5 then zdv x y else if o = 6 then zrm x y else if o = 7 then (if x < y then 1 else 0) else if o = 8 then (if y < x then 1 else 0) else (if x = y then 1 else 0)
theorem zrk_b (o x y : Int) (h : 7 ≤ o) : zrk o x y = 0 ∨ zrk o x y = 1 := by
  unfold zrk
  rw [if_neg (by omega), if_neg (by omega), if_neg (by omega), if_neg (by omega), if_neg (by omega)]
  (repeat' split) <;> simp
def zhd : List Int → Int
  | [] => 0
  | v :: _ => v
def ztl : List Int → List Int
  | [] => []
  | _ :: r => r
def zev (C F : Int → Int) (t : Int) : Nat → Int → List Int → Int
  | 0, _, st => zhd st
  | k + 1, p, st => if t ≤ p then zhd st else
    if C p < 1048576 then zev C F t k (p + 1) (C p :: st) else
    if C p < 2097152 then zev C F t k (p + 1) (F (C p - 1048576) :: st) else
    if C p / 1048576 = 10 then zev C F t k (p + 1) ((1 - zhd st) :: ztl st) else
    if C p / 1048576 = 11 then (if zhd st = 0 then zev C F t k (C p % 1048576) st else zev C F t k (p + 1) (ztl st)) else
    if C p / 1048576 = 12 then (if zhd st = 1 then zev C F t k (C p % 1048576) st else zev C F t k (p + 1) (ztl st)) else
    if (C p / 1048576 = 5 ∨ C p / 1048576 = 6) ∧ zhd st = 0 then 0 else
    zev C F t k (p + 1) (zrk (C p / 1048576) (zhd (ztl st)) (zhd st) :: ztl (ztl st))
def zEV (C F : Int → Int) (a t : Int) : Int := zev C F t (t - a).toNat a []
/-- which numbers of the code leave 0 or 1 -/
def zbc (v : Int) : Prop := 7340032 ≤ v ∧ v < 11534336
/-- ! and jumps follow such a one; jumps lead behind such a one; the last is such a one, if m -/
def zBL (C : Int → Int) (a c : Int) (m : Bool) : Prop := (∀ k, a ≤ k → k < c → 10485760 ≤ C k → (a < k ∧ zbc (C (k - 1)))) ∧ (∀ k, a ≤ k → k < c → 11534336 ≤ C k → C k % 1048576 ≠ 0 → (a < C k % 1048576 ∧ zbc (C (C k % 1048576 - 1)))) ∧ (m = true → (a < c ∧ zbc (C (c - 1))))
theorem zBL.cp {C C2 : Int → Int} {a c : Int} {m : Bool} (h : zBL C a c m) (ha : 0 ≤ a) (hc : ∀ k, a ≤ k → k < c → C2 k = C k) (hj : ∀ k, a ≤ k → k < c → 11534336 ≤ C k → C k % 1048576 ≤ c) : zBL C2 a c m := by
  refine ⟨fun k k1 k2 k3 => ?_, fun k k1 k2 k3 k4 => ?_, fun q => ?_⟩
  · rw [hc k k1 k2] at k3
    have z := h.1 k k1 k2 k3
    rw [hc (k - 1) (by omega) (by omega)]
    exact z
  · rw [hc k k1 k2] at k3 k4 ⊢
    have z := h.2.1 k k1 k2 k3 k4
    have y := hj k k1 k2 k3
    rw [hc _ (by omega) (by omega)]
    exact z
  · have z := h.2.2 q
    rw [hc _ (by omega) (by omega)]
    exact z
/-- a sum's code holds no ! and no jump -/
theorem zEX.bl {f : Int → Int} {n q W K b0 p2 c2 : Int} {B0 C2 : Int → Int} : ∀ (u : Nat) (m : Bool) (p c : Int) (C : Int → Int) (se : List Int), 2 * (n - p) + (se.length : Int) + 1 ≤ (u : Int) → zEX f n q W K b0 B0 (0, p2, c2, C2) m p c C se → (∀ k, k < c → C2 k = C k) ∧ c ≤ c2 ∧ ∀ k, c ≤ k → k < c2 → C2 k < 10485760 := by
  intro u
  induction u with
  | zero =>
    intro m p c C se hu h
    have b := h.b
    omega
  | succ u ih =>
    intro m p c C se hu h
    have b := h.b
    have zc := zsg_cs (zch f n p)
    have hlt : zch f n p ≠ -1 → p < n := zch_lt
    have no : ∀ {x : Int} {y : Int × Int × (Int → Int)}, x < 0 → ((0, p2, c2, C2) : Int × Int × Int × (Int → Int)) ≠ (x, y) := fun hx e => by
      have e2 : (0 : Int) = _ := congrArg Prod.fst e
      omega
    have em : ∀ v : Int, v < 10485760 → ((∀ k, k < c + 1 → C2 k = xud C c v k) ∧ c + 1 ≤ c2 ∧ ∀ k, c + 1 ≤ k → k < c2 → C2 k < 10485760) → ((∀ k, k < c → C2 k = C k) ∧ c ≤ c2 ∧ ∀ k, c ≤ k → k < c2 → C2 k < 10485760) := fun v hv z => ⟨fun k hk => (z.1 k (by omega)).trans (xud_o C v (by omega)), by omega, fun k k1 k2 => by
      by_cases e : k = c
      · rw [z.1 k (by omega), e, xud_s]; exact hv
      · exact z.2.2 k (by omega) k2⟩
    cases m with
    | true =>
      by_cases c1 : zch f n p = 91
      · by_cases c3 : 6 ≤ q + zop se
        · exact absurd (h.five c1 c3) (no (by omega))
        · exact ih true (p + 1) c C (14680064 :: se) (by rw [zlenc]; omega) (h.open_ c1 (by omega) rfl rfl)
      by_cases c2' : zdg (zch f n p)
      · have z1 := znr_p (f := f) (n := n) 5 p 0
        have z2 := z1.2.2 c2' (by decide)
        by_cases c3 : zdg (zch f n (znr f n 5 p 0).1)
        · exact absurd (h.two c2' rfl c3) (no (by omega))
        · have zv := zdl_n (f := f) (n := n) (p := p)
          exact em _ (by omega) (ih false _ _ _ se (by omega) (h.num c2' rfl c3 rfl rfl))
      by_cases c3 : zlt (zch f n p) = -1
      · exact absurd (h.one c1 c2' c3) (no (by omega))
      · have zl := zlt_cs (zch f n p)
        exact em _ (by omega) (ih false _ _ _ se (by omega) (h.let_ c3 rfl rfl rfl))
    | false =>
      cases se with
      | nil =>
        by_cases c1 : zsg (zch f n p) < 2
        · have e := h.fin c1
          have e2 : c2 = c := congrArg (fun z => z.2.2.1) e
          have e3 : C2 = C := congrArg (fun z => z.2.2.2) e
          subst e2; subst e3
          exact ⟨fun _ _ => rfl, Int.le_refl _, fun k k1 k2 => by omega⟩
        have h9 : zEX f n q W K b0 B0 (0, p2, c2, C2) true (p + 1) c C [1048576 * zsg (zch f n p)] := by
          by_cases c4 : 4 ≤ zsg (zch f n p)
          · exact h.sgm (Or.inl (by decide)) c4 rfl rfl
          · exact h.sga (Or.inl (by decide)) (by omega) rfl rfl
        have hu : 2 * (n - p) + 0 + 1 ≤ ((u + 1 : Nat) : Int) := hu
        exact ih true (p + 1) c C _ (by rw [zlenc]; show 2 * (n - (p + 1)) + (0 + 1) + 1 ≤ _; omega) h9
      | cons v r =>
        have hv := h.sh.1
        rw [zlenc] at hu
        by_cases c1 : 4194304 ≤ v ∧ v < 7340032
        · exact em _ (by omega) (ih false _ _ _ r (by omega) (h.mul c1 rfl rfl))
        by_cases c2' : 4 ≤ zsg (zch f n p)
        · exact ih true (p + 1) c C _ (by rw [zlenc, zlenc]; omega) (h.sgm (v := 1048576 * zsg (zch f n p)) (by show v < 4194304 ∨ 7340032 ≤ v; omega) c2' rfl rfl)
        by_cases c3 : v < 4194304
        · exact em _ (by omega) (ih false _ _ _ r (by omega) (h.add c3 (by omega) rfl rfl))
        by_cases c4 : 2 ≤ zsg (zch f n p)
        · exact ih true (p + 1) c C _ (by rw [zlenc, zlenc]; omega) (h.sga (v := 1048576 * zsg (zch f n p)) (by show v < 0 ∨ 7340032 ≤ v; omega) ⟨c4, by omega⟩ rfl rfl)
        by_cases c5 : zch f n p = 93
        · exact ih false (p + 1) c C r (by omega) (h.shut (by omega) c5 rfl)
        · have e := zEX.bad (v :: r) c C h (by rw [zop_y (by omega)]; have := zop_n r; omega) (by omega) c5
          have e2 : (0 : Int) = -1000 - p := e
          omega
theorem zEX.pr {f : Int → Int} {n q W K b0 p2 c2 : Int} {B0 C2 : Int → Int} : ∀ (u : Nat) (m : Bool) (p c : Int) (C : Int → Int) (se : List Int), 2 * (n - p) + (se.length : Int) + 1 ≤ (u : Int) → zEX f n q W K b0 B0 (0, p2, c2, C2) m p c C se → p ≤ p2 ∧ p2 ≤ n ∧ c2 + K ≤ p2 ∧ (m = true → p + 1 ≤ p2) := by
  intro u
  induction u with
  | zero =>
    intro m p c C se hu h
    have b := h.b
    omega
  | succ u ih =>
    intro m p c C se hu h
    have b := h.b
    have zc := zsg_cs (zch f n p)
    have hlt : zch f n p ≠ -1 → p < n := zch_lt
    have no : ∀ {x : Int} {y : Int × Int × (Int → Int)}, x < 0 → ((0, p2, c2, C2) : Int × Int × Int × (Int → Int)) ≠ (x, y) := fun hx e => by
      have e2 : (0 : Int) = _ := congrArg Prod.fst e
      omega
    cases m with
    | true =>
      by_cases c1 : zch f n p = 91
      · by_cases c3 : 6 ≤ q + zop se
        · exact absurd (h.five c1 c3) (no (by omega))
        · have z := ih true (p + 1) c C (14680064 :: se) (by rw [zlenc]; omega) (h.open_ c1 (by omega) rfl rfl)
          exact ⟨by omega, z.2.1, z.2.2.1, fun _ => by omega⟩
      by_cases c2' : zdg (zch f n p)
      · have z1 := znr_p (f := f) (n := n) 5 p 0
        have z2 := z1.2.2 c2' (by decide)
        by_cases c3 : zdg (zch f n (znr f n 5 p 0).1)
        · exact absurd (h.two c2' rfl c3) (no (by omega))
        · have z := ih false _ _ _ se (by omega) (h.num c2' rfl c3 rfl rfl)
          exact ⟨by omega, z.2.1, z.2.2.1, fun _ => by omega⟩
      by_cases c3 : zlt (zch f n p) = -1
      · exact absurd (h.one c1 c2' c3) (no (by omega))
      · have zl := zlt_cs (zch f n p)
        have z := ih false _ _ _ se (by omega) (h.let_ c3 rfl rfl rfl)
        exact ⟨by omega, z.2.1, z.2.2.1, fun _ => by omega⟩
    | false =>
      cases se with
      | nil =>
        by_cases c1 : zsg (zch f n p) < 2
        · have e := h.fin c1
          have e1 : p2 = p := congrArg (fun z => z.2.1) e
          have e2 : c2 = c := congrArg (fun z => z.2.2.1) e
          exact ⟨by omega, by omega, by omega, fun q => by cases q⟩
        have h9 : zEX f n q W K b0 B0 (0, p2, c2, C2) true (p + 1) c C [1048576 * zsg (zch f n p)] := by
          by_cases c4 : 4 ≤ zsg (zch f n p)
          · exact h.sgm (Or.inl (by decide)) c4 rfl rfl
          · exact h.sga (Or.inl (by decide)) (by omega) rfl rfl
        have hu : 2 * (n - p) + 0 + 1 ≤ ((u + 1 : Nat) : Int) := hu
        have z := ih true (p + 1) c C _ (by rw [zlenc]; show 2 * (n - (p + 1)) + (0 + 1) + 1 ≤ _; omega) h9
        exact ⟨by omega, z.2.1, z.2.2.1, fun q => by cases q⟩
      | cons v r =>
        have hv := h.sh.1
        rw [zlenc] at hu
        by_cases c1 : 4194304 ≤ v ∧ v < 7340032
        · have z := ih false _ _ _ r (by omega) (h.mul c1 rfl rfl)
          exact ⟨z.1, z.2.1, z.2.2.1, fun q => by cases q⟩
        by_cases c2' : 4 ≤ zsg (zch f n p)
        · have z := ih true (p + 1) c C _ (by rw [zlenc, zlenc]; omega) (h.sgm (v := 1048576 * zsg (zch f n p)) (by show v < 4194304 ∨ 7340032 ≤ v; omega) c2' rfl rfl)
          exact ⟨by omega, z.2.1, z.2.2.1, fun q => by cases q⟩
        by_cases c3 : v < 4194304
        · have z := ih false _ _ _ r (by omega) (h.add c3 (by omega) rfl rfl)
          exact ⟨z.1, z.2.1, z.2.2.1, fun q => by cases q⟩
        by_cases c4 : 2 ≤ zsg (zch f n p)
        · have z := ih true (p + 1) c C _ (by rw [zlenc, zlenc]; omega) (h.sga (v := 1048576 * zsg (zch f n p)) (by show v < 0 ∨ 7340032 ≤ v; omega) ⟨c4, by omega⟩ rfl rfl)
          exact ⟨by omega, z.2.1, z.2.2.1, fun q => by cases q⟩
        by_cases c5 : zch f n p = 93
        · have z := ih false (p + 1) c C r (by omega) (h.shut (by omega) c5 rfl)
          exact ⟨by omega, z.2.1, z.2.2.1, fun q => by cases q⟩
        · have e := zEX.bad (v :: r) c C h (by rw [zop_y (by omega)]; have := zop_n r; omega) (by omega) c5
          have e2 : (0 : Int) = -1000 - p := e
          omega
theorem zE0_bl {f : Int → Int} {n q K p c p2 c2 : Int} {C C2 : Int → Int} (hb : 0 ≤ c ∧ c + K ≤ p ∧ 0 ≤ K ∧ p ≤ n ∧ n ≤ 240) (e : zE0 f n q p c C = (0, p2, c2, C2)) : (∀ k, k < c → C2 k = C k) ∧ c ≤ c2 ∧ ∀ k, c ≤ k → k < c2 → C2 k < 10485760 := by
  have h : zEX f n q 0 K c C (0, p2, c2, C2) true p c C [] := by
    rw [← e]
    exact zEX.new ⟨hb.1, hb.2.1, Int.le_refl _, hb.2.2.1, by omega, hb.2.2.2.1, hb.2.2.2.2⟩
  exact zEX.bl (2 * n + 2).toNat true p c C [] (by show 2 * (n - p) + 0 + 1 ≤ _; omega) h


section BL
variable {C C2 : Int → Int} {a c c2 v : Int} {m : Bool}
theorem zBL_0 (C : Int → Int) (a : Int) : zBL C a a false := ⟨fun k k1 k2 => by omega, fun k k1 k2 => by omega, fun q => by cases q⟩
/-- numbers that are no ! and no jump behind it -/
theorem zBL.more (h : zBL C a c m) (hc : c ≤ c2) (ho : ∀ k, k < c → C2 k = C k) (hn : ∀ k, c ≤ k → k < c2 → C2 k < 10485760) (hj : ∀ k, a ≤ k → k < c → 11534336 ≤ C k → C k % 1048576 ≤ c) (ha : 0 ≤ a) : zBL C2 a c2 false := by
  refine ⟨fun k k1 k2 k3 => ?_, fun k k1 k2 k3 k4 => ?_, fun q => by cases q⟩
  · by_cases e : k < c
    · rw [ho k e] at k3
      have z := h.1 k k1 e k3
      rw [ho (k - 1) (by omega)]
      exact z
    · have := hn k (by omega) k2
      omega
  · by_cases e : k < c
    · rw [ho k e] at k3 k4 ⊢
      have z := h.2.1 k k1 e k3 k4
      have y := hj k k1 e k3
      rw [ho _ (by omega)]
      exact z
    · have := hn k (by omega) k2
      omega
theorem zBL.cmp (h : zBL C a c false) (ha : 0 ≤ a ∧ a ≤ c) (hv : 7340032 ≤ v ∧ v < 10485760) (hj : ∀ k, a ≤ k → k < c → 11534336 ≤ C k → C k % 1048576 ≤ c) : zBL (xud C c v) a (c + 1) true := by
  have h2 := h.more (c2 := c + 1) (C2 := xud C c v) (by omega) (fun k hk => xud_o C v (by omega)) (fun k k1 k2 => by rw [show k = c from by omega, xud_s]; omega) hj ha.1
  exact ⟨h2.1, h2.2.1, fun _ => ⟨by omega, by rw [show c + 1 - 1 = c from by omega, xud_s]; exact ⟨by omega, by omega⟩⟩⟩
theorem zBL.note (h : zBL C a c true) (ha : 0 ≤ a ∧ a ≤ c) (hv : v = 10485760 ∨ v = 11534336 ∨ v = 12582912) (hj : ∀ k, a ≤ k → k < c → 11534336 ≤ C k → C k % 1048576 ≤ c) : zBL (xud C c v) a (c + 1) (decide (v = 10485760)) := by
  have z := h.2.2 rfl
  have ec : ∀ k, k < c → xud C c v k = C k := fun k hk => xud_o C v (by omega)
  refine ⟨fun k k1 k2 k3 => ?_, fun k k1 k2 k3 k4 => ?_, fun q => ?_⟩
  · by_cases e : k < c
    · rw [ec k e] at k3
      rw [ec (k - 1) (by omega)]
      exact h.1 k k1 e k3
    · rw [show k = c from by omega, ec _ (by omega)]
      exact z
  · by_cases e : k < c
    · rw [ec k e] at k3 k4 ⊢
      have y := hj k k1 e k3
      have w := h.2.1 k k1 e k3 k4
      rw [ec _ (by omega)]
      exact w
    · rw [show k = c from by omega, xud_s] at k4
      rcases hv with rfl | rfl | rfl <;> exact absurd k4 (by decide)
  · have q := of_decide_eq_true q
    rw [show c + 1 - 1 = c from by omega, xud_s, q]
    exact ⟨by omega, by decide, by decide⟩
theorem zBL.land (h : zBL C a c true) (hv : a ≤ v % 1048576 ∧ v % 1048576 < c) (hC : 11534336 ≤ C (v % 1048576) ∧ C (v % 1048576) < 13631488) (hc : c < 1048576) : zBL (zland C v c) a c true := by
  have z := h.2.2 rfl
  have hb : ∀ k, zbc (C k) → zbc (zland C v c k) := fun k hk => by
    unfold zland
    by_cases e : k = v % 1048576
    · rw [e] at hk; unfold zbc at hk; omega
    · rw [xud_o C _ e]; exact hk
  have hg : ∀ k, 10485760 ≤ zland C v c k → 10485760 ≤ C k := fun k hk => by
    by_cases e : k = v % 1048576
    · rw [e]; omega
    · unfold zland at hk
      rw [xud_o C _ e] at hk; exact hk
  refine ⟨fun k k1 k2 k3 => ?_, fun k k1 k2 k3 k4 => ?_, fun _ => ⟨z.1, hb _ z.2⟩⟩
  · have w := h.1 k k1 k2 (hg k k3)
    exact ⟨w.1, hb _ w.2⟩
  · by_cases e : k = v % 1048576
    · have e2 : zland C v c k % 1048576 = c := by
        unfold zland
        rw [e, xud_s]; omega
      rw [e2]
      exact ⟨z.1, hb _ z.2⟩
    · have e2 : zland C v c k = C k := xud_o C _ e
      rw [e2] at k3 k4 ⊢
      have w := h.2.1 k k1 k2 k3 k4
      exact ⟨w.1, hb _ w.2⟩
end BL
theorem zCX.bl {f : Int → Int} {n a p2 c2 : Int} {C2 : Int → Int} : ∀ (u : Nat) (m : Bool) (p c : Int) (C : Int → Int) (st : List Int), 2 * (n - p) + (st.length : Int) + 1 ≤ (u : Int) → zCX f n a (0, p2, c2, C2) m p c C st → zBL C a c (!m) → (∀ k, a ≤ k → k < c → 11534336 ≤ C k → C k < 13631488 ∧ C k % 1048576 ≤ c) → zBL C2 a c2 true ∧ (∀ k, a ≤ k → k < c2 → 11534336 ≤ C2 k → C2 k < 13631488 ∧ C2 k % 1048576 ≤ c2) := by
  intro u
  induction u with
  | zero =>
    intro m p c C st hu h
    have b := h.b
    omega
  | succ u ih =>
    intro m p c C st hu h hw hj
    have b := h.b
    have hj2 : ∀ k, a ≤ k → k < c → 11534336 ≤ C k → C k % 1048576 ≤ c := fun k k1 k2 k3 => (hj k k1 k2 k3).2
    have hlt : zch f n p ≠ -1 → p < n := zch_lt
    have no : ∀ {x : Int} {y : Int × Int × (Int → Int)}, x < 0 → ((0, p2, c2, C2) : Int × Int × Int × (Int → Int)) ≠ (x, y) := fun hx e => by
      have e2 : (0 : Int) = _ := congrArg Prod.fst e
      omega
    have no2 : ∀ {y : Int × Int × Int × (Int → Int)}, y.1 ≠ 0 → ((0, p2, c2, C2) : Int × Int × Int × (Int → Int)) ≠ y := fun hx e => hx (congrArg Prod.fst e).symm
    cases m with
    | true =>
      have hw : zBL C a c false := hw
      by_cases c1 : zch f n p = 33 ∨ zch f n p = 40
      · by_cases c3 : 6 ≤ zqn st
        · exact absurd (h.five c1 c3) (no (by omega))
        · obtain ⟨v, hv⟩ : ∃ v : Int, (zch f n p = 33 ∧ v = 10485760) ∨ (zch f n p = 40 ∧ v = 13631488) := by
            rcases c1 with q | q
            · exact ⟨_, Or.inl ⟨q, rfl⟩⟩
            · exact ⟨_, Or.inr ⟨q, rfl⟩⟩
          exact ih true (p + 1) c C (v :: st) (by rw [zlenc]; omega) (h.open_ hv (by omega) rfl) hw hj
      obtain ⟨x1, p3, c3, C3, e1⟩ : ∃ x1 p3 c3 C3, zE0 f n (zqn st) p c C = (x1, p3, c3, C3) := ⟨_, _, _, _, rfl⟩
      by_cases z1 : x1 = 0
      · subst z1
        have hqs := zqn_n st
        have w1 := zE0_bl (K := znN st) ⟨by omega, b.2.2.1, b.2.2.2.1, b.2.2.2.2.2.1, b.2.2.2.2.2.2⟩ e1
        have h1x : zEX f n (zqn st) 0 (znN st) c C (0, p3, c3, C3) true p c C [] := by
          rw [← e1]
          exact zEX.new ⟨by omega, b.2.2.1, Int.le_refl _, b.2.2.2.1, by omega, b.2.2.2.2.2.1, b.2.2.2.2.2.2⟩
        have b1 := zEX.pr (2 * n + 2).toNat true p c C [] (by show 2 * (n - p) + 0 + 1 ≤ _; omega) h1x
        by_cases z2 : zcp (zch f n p3) = -1
        · exact absurd (h.one (by omega) e1 z2) (no (by omega))
        obtain ⟨x2, p4, c4, C4, e2⟩ : ∃ x2 p4 c4 C4, zE0 f n (zqn st) (p3 + 1) c3 C3 = (x2, p4, c4, C4) := ⟨_, _, _, _, rfl⟩
        have zc := zcp_cs (zch f n p3)
        have hl3 := zch_lt (f := f) (n := n) (p := p3) (by omega)
        by_cases z3 : x2 = 0
        · subst z3
          have w2 := zE0_bl (K := znN st + 1) ⟨by omega, by omega, by omega, by omega, b.2.2.2.2.2.2⟩ e2
          have h2x : zEX f n (zqn st) 0 (znN st + 1) c3 C3 (0, p4, c4, C4) true (p3 + 1) c3 C3 [] := by
            rw [← e2]
            exact zEX.new ⟨by omega, by omega, Int.le_refl _, by omega, by omega, by omega, b.2.2.2.2.2.2⟩
          have b2 := zEX.pr (2 * n + 2).toNat true (p3 + 1) c3 C3 [] (by show 2 * (n - (p3 + 1)) + 0 + 1 ≤ _; omega) h2x
          have ho : ∀ k, k < c → C4 k = C k := fun k hk => by rw [w2.1 k (by omega), w1.1 k hk]
          have hn4 : ∀ k, c ≤ k → k < c4 → C4 k < 10485760 := fun k k1 k2 => by
            by_cases e : k < c3
            · rw [w2.1 k e]; exact w1.2.2 k k1 e
            · exact w2.2.2 k (by omega) k2
          have hb4 := hw.more (c2 := c4) (by omega) ho hn4 hj2 b.1
          have hj4 : ∀ k, a ≤ k → k < c4 → 11534336 ≤ C4 k → C4 k < 13631488 ∧ C4 k % 1048576 ≤ c4 := fun k k1 k2 k3 => by
            by_cases e : k < c
            · rw [ho k e] at k3 ⊢
              have := hj k k1 e k3
              omega
            · have := hn4 k (by omega) k2
              omega
          have hb5 := hb4.cmp (v := 1048576 * zcp (zch f n p3)) ⟨b.1, by omega⟩ (by omega) (fun k k1 k2 k3 => (hj4 k k1 k2 k3).2)
          have h9 := h.cmp (by omega) e1 z2 e2 (by omega) ho rfl rfl
          refine ih false _ _ _ st (by omega) h9 hb5 (fun k k1 k2 k3 => ?_)
          by_cases e : k = c4
          · rw [e, xud_s] at k3; omega
          · rw [xud_o C4 _ e] at k3 ⊢
            have := hj4 k k1 (by omega) k3
            omega
        · have e9 := h.e2 (by omega) e1 z2 (by rw [e2]; exact z3)
          exact absurd e9 (no2 (by rw [e2]; exact z3))
      · have e9 := h.e1 (by omega) (by rw [e1]; exact z1)
        exact absurd e9 (no2 (by rw [e1]; exact z1))
    | false =>
      have hw : zBL C a c true := hw
      cases st with
      | nil =>
        have e := h.fin
        have e2 : c2 = c := congrArg (fun z => z.2.2.1) e
        have e3 : C2 = C := congrArg (fun z => z.2.2.2) e
        subst e2; subst e3
        exact ⟨hw, hj⟩
      | cons v r =>
        have hsh := h.sh
        have hv := hsh.1
        rw [zlenc] at hu
        have nt : ∀ x : Int, (x = 10485760 ∨ x = 11534336 ∨ x = 12582912) → ∀ k, a ≤ k → k < c + 1 → 11534336 ≤ xud C c x k → xud C c x k < 13631488 ∧ xud C c x k % 1048576 ≤ c + 1 := fun x hx k k1 k2 k3 => by
          by_cases e : k = c
          · rw [e, xud_s] at k3 ⊢; omega
          · rw [xud_o C _ e] at k3 ⊢
            have := hj k k1 (by omega) k3
            omega
        have lnd : 11534336 ≤ v ∧ v < 13631488 → zBL (zland C v c) a c true ∧ ∀ k, a ≤ k → k < c → 11534336 ≤ zland C v c k → zland C v c k < 13631488 ∧ zland C v c k % 1048576 ≤ c := fun q => by
          have q2 : a ≤ v % 1048576 ∧ v % 1048576 < c ∧ C (v % 1048576) / 1048576 = v / 1048576 := by
            rcases hv with e | e | e
            · omega
            · omega
            · exact ⟨e.2.2.1, e.2.2.2.1, e.2.2.2.2.1⟩
          refine ⟨hw.land ⟨q2.1, q2.2.1⟩ (by omega) (by omega), fun k k1 k2 k3 => ?_⟩
          by_cases e : k = v % 1048576
          · have e2 : zland C v c k = 1048576 * (C (v % 1048576) / 1048576) + c := by
              unfold zland
              rw [e, xud_s]
            rw [e2]; omega
          · have e2 : zland C v c k = C k := xud_o C _ e
            rw [e2] at k3 ⊢
            exact hj k k1 k2 k3
        by_cases c1 : v < 11534336
        · exact ih false _ _ _ r (by omega) (h.not c1 rfl rfl) (hw.note ⟨b.1, b.2.1⟩ (Or.inl rfl) hj2) (nt _ (Or.inl rfl))
        by_cases c2' : v < 12582912
        · have j := lnd (by omega)
          exact ih false _ _ _ r (by omega) (h.landA ⟨by omega, c2'⟩ rfl) j.1 j.2
        by_cases c3 : zch f n p = 38
        · exact ih true _ _ _ ((11534336 + c) :: v :: r) (by rw [zlenc, zlenc]; omega) (h.and_ (by show 12582912 ≤ v; omega) c3 rfl rfl rfl rfl) (hw.note ⟨b.1, b.2.1⟩ (Or.inr (Or.inl rfl)) hj2) (nt _ (Or.inr (Or.inl rfl)))
        by_cases c4 : v < 13631488
        · have j := lnd (by omega)
          exact ih false _ _ _ r (by omega) (h.landP ⟨by omega, c4⟩ c3 rfl) j.1 j.2
        by_cases c5 : zch f n p = 124
        · exact ih true _ _ _ ((12582912 + c) :: v :: r) (by rw [zlenc, zlenc]; omega) (h.or_ (by show 13631488 ≤ v; omega) c5 rfl rfl rfl rfl) (hw.note ⟨b.1, b.2.1⟩ (Or.inr (Or.inr rfl)) hj2) (nt _ (Or.inr (Or.inr rfl)))
        by_cases c6 : zch f n p = 41
        · exact ih false (p + 1) c C r (by omega) (h.shut (by omega) c6 rfl) hw hj
        · have e := zCX.bad (v :: r) c C h (List.cons_ne_nil _ _) c3 c5 c6
          have e2 : (0 : Int) = -1000 - p := e
          omega
theorem zC0_bl {f : Int → Int} {n p c p2 c2 : Int} {C C2 : Int → Int} (hb : 0 ≤ c ∧ c + 1 ≤ p ∧ p ≤ n ∧ n ≤ 240) (e : zC0 f n p c C = (0, p2, c2, C2)) : zBL C2 c c2 true ∧ (∀ k, c ≤ k → k < c2 → 11534336 ≤ C2 k → C2 k < 13631488 ∧ C2 k % 1048576 ≤ c2) := by
  have h : zCX f n c (0, p2, c2, C2) true p c C [13631488] := by
    rw [← e]
    exact zCX.new hb
  exact zCX.bl (2 * n + 2).toNat true p c C [13631488] (by show 2 * (n - p) + 1 + 1 ≤ _; omega) h (zBL_0 _ _) (fun k k1 k2 => by omega)
def zBC (C : Int → Int) (a t : Int) : Prop := zBL C a t true ∧ (∀ k, a ≤ k → k < t → 11534336 ≤ C k → C k < 13631488 ∧ C k % 1048576 ≤ t)
theorem zBC.cp {C C2 : Int → Int} {a t : Int} (h : zBC C a t) (ha : 0 ≤ a) (hc : ∀ k, a ≤ k → k < t → C2 k = C k) : zBC C2 a t := ⟨h.1.cp ha hc (fun k k1 k2 k3 => (h.2 k k1 k2 k3).2), fun k k1 k2 k3 => by
  rw [hc k k1 k2] at k3 ⊢
  exact h.2 k k1 k2 k3⟩
def zSB (C L A B T : Int → Int) (M : Int) : Prop := ∀ q, 0 ≤ q → q < M → (0 ≤ A q ∧ 0 ≤ B q) ∧ (∀ k, A q ≤ k → k < B q → C k < 10485760) ∧ zBC C (B q) (T q)
theorem zLX.bl {f : Int → Int} {n M2 c2 : Int} {C2 L2 A2 B2 T2 : Int → Int} : ∀ (u : Nat) (m : Bool) (M p c : Int) (C L A B T : Int → Int), 2 * (n - p) + (bif m then 1 else 2) ≤ (u : Int) → zLX f n (0, M2, c2, C2, L2, A2, B2, T2) m M p c C L A B T → zSB C L A B T M → (∀ q, 0 ≤ q → q < M → B q ≤ c ∧ T q ≤ c) → zSB C2 L2 A2 B2 T2 M2 := by
  intro u
  induction u with
  | zero =>
    intro m M p c C L A B T hu h
    have b := h.b
    cases m with
    | true => have hu : 2 * (n - p) + 1 ≤ (0 : Int) := hu; omega
    | false => have hu : 2 * (n - p) + 2 ≤ (0 : Int) := hu; omega
  | succ u ih =>
    intro m M p c C L A B T hu h hs ht
    have b := h.b
    have hlt : zch f n p ≠ -1 → p < n := zch_lt
    cases m with
    | true =>
      have hu : 2 * (n - p) + 1 ≤ ((u + 1 : Nat) : Int) := hu
      have hk := zkl_cs (zch f n p)
      by_cases k1 : zkl (zch f n p) = 0
      · have e2 : (0 : Int) = -1000 - p := h.one k1
        omega
      by_cases k2 : 16 ≤ M
      · have e2 : (0 : Int) = -4000 - p := h.four k1 k2
        omega
      obtain ⟨x1, p3, c3, C3, e1⟩ : ∃ x1 p3 c3 C3, zc1 f n p c C = (x1, p3, c3, C3) := ⟨_, _, _, _, rfl⟩
      by_cases z1 : x1 = 0
      · subst z1
        have w1 := zc1_wf ⟨b.1, b.2.1, by omega, b.2.2.2.1⟩ e1
        have v1 : ∀ k, c ≤ k → k < c3 → C3 k < 10485760 := by
          have e9 := e1
          unfold zc1 at e9
          split at e9
          · have e2 : c = c3 := congrArg (fun z => z.2.2.1) e9
            exact fun k a1 a2 => by omega
          · exact (zE0_bl (K := 1) ⟨b.1, by omega, by decide, by omega, b.2.2.2.1⟩ e9).2.2
        obtain ⟨x2, p4, c4, C4, e2⟩ : ∃ x2 p4 c4 C4, zc2 f n p3 c3 C3 = (x2, p4, c4, C4) := ⟨_, _, _, _, rfl⟩
        by_cases z2 : x2 = 0
        · subst z2
          have w2 := zc2_wf (by omega) e2
          have v2 : zBC C4 c3 c4 := by
            have e9 := e2
            unfold zc2 at e9
            split at e9
            · have e3 : -1000 - p3 = (0 : Int) := congrArg Prod.fst e9
              omega
            · rename_i hh
              have hl := zch_lt (f := f) (n := n) (p := p3) (by omega)
              exact zC0_bl ⟨by omega, by omega, by omega, b.2.2.2.1⟩ e9
          have h9 := h.clause k1 (by omega) e1 e2 (by omega) rfl rfl rfl rfl rfl
          have hc : ∀ k, k < c → C4 k = C k := fun k hk => by rw [w2.2.2 k (by omega), w1.2.2 k hk]
          refine ih false _ _ _ _ _ _ _ _ (by show 2 * (n - p4) + 2 ≤ _; omega) h9 (fun q q1 q2 => ?_) (fun q q1 q2 => ?_)
          · by_cases e : q = M
            · subst e
              rw [xud_s, xud_s, xud_s]
              exact ⟨by omega, fun k a1 a2 => by rw [w2.2.2 k a2]; exact v1 k a1 a2, v2⟩
            · rw [xud_o A _ e, xud_o B _ e, xud_o T _ e]
              have z := hs q q1 (by omega)
              have y := ht q q1 (by omega)
              exact ⟨z.1, fun k a1 a2 => by rw [hc k (by omega)]; exact z.2.1 k a1 a2, z.2.2.cp z.1.2 (fun k _ a2 => hc k (by omega))⟩
          · by_cases e : q = M
            · subst e
              rw [xud_s, xud_s]
              omega
            · rw [xud_o B _ e, xud_o T _ e]
              have y := ht q q1 (by omega)
              omega
        · have e9 : (0 : Int) = (zc2 f n p3 c3 C3).1 := h.e2 k1 (by omega) e1 (by rw [e2]; exact z2)
          rw [e2] at e9
          exact absurd e9.symm z2
      · have e9 : (0 : Int) = (zc1 f n p c C).1 := h.e1 k1 (by omega) (by rw [e1]; exact z1)
        rw [e1] at e9
        exact absurd e9.symm z1
    | false =>
      have hu : 2 * (n - p) + 2 ≤ ((u + 1 : Nat) : Int) := hu
      by_cases k1 : p < n
      · by_cases k2 : zch f n p = 59
        · exact ih true _ _ _ _ _ _ _ _ (by show 2 * (n - (p + 1)) + 1 ≤ _; omega) (h.semi k2 rfl) hs ht
        · have e2 : (0 : Int) = -1000 - p := h.bad k1 k2
          omega
      · have e := h.fin (by omega)
        have e1 : M2 = M := congrArg (fun z => z.2.1) e
        have e3 : C2 = C := congrArg (fun z => z.2.2.2.1) e
        have e4 : L2 = L := congrArg (fun z => z.2.2.2.2.1) e
        have e5 : A2 = A := congrArg (fun z => z.2.2.2.2.2.1) e
        have e6 : B2 = B := congrArg (fun z => z.2.2.2.2.2.2.1) e
        have e7 : T2 = T := congrArg (fun z => z.2.2.2.2.2.2.2) e
        subst e1; subst e3; subst e4; subst e5; subst e6; subst e7
        exact hs
theorem zL0_bl {f : Int → Int} {n M2 c2 : Int} {C L A B T C2 L2 A2 B2 T2 : Int → Int} (hn : 0 ≤ n ∧ n ≤ 240) (e : zL0 f n C L A B T = (0, M2, c2, C2, L2, A2, B2, T2)) : zSB C2 L2 A2 B2 T2 M2 := by
  have h : zLX f n (0, M2, c2, C2, L2, A2, B2, T2) true 0 0 0 C L A B T := by
    rw [← e]
    exact zLX.new hn
  exact zLX.bl (2 * n + 2).toNat true 0 0 0 C L A B T (by show 2 * (n - 0) + 1 ≤ _; omega) h (fun q q1 q2 => by omega) (fun q q1 q2 => by omega)


/-! ===== going through a law's code ===== -/
def zGD (C : Int → Int) (a t : Int) (m : Bool) (d : Int → Int) : Prop := (0 ≤ a ∧ a ≤ t ∧ t ≤ 240) ∧ (d a = 0 ∧ d t = 1) ∧ (∀ k, a ≤ k → k < t → zokc C (fun _ => 0) d t 0 k) ∧ (∀ k, a ≤ k → k ≤ t → 0 ≤ d k ∧ d k ≤ 40) ∧ zBL C a t m ∧ (∀ k, a ≤ k → k < t → 11534336 ≤ C k → C k < 13631488 ∧ C k % 1048576 ≤ t)
theorem zSG.gd {C : Int → Int} {a t : Int} {m : Bool} (h : zSG C a t) (hb : zBL C a t m) (hj : ∀ k, a ≤ k → k < t → 11534336 ≤ C k → C k < 13631488 ∧ C k % 1048576 ≤ t) : ∃ d, zGD C a t m d := by
  obtain ⟨h0, hw, hB⟩ := h
  obtain ⟨d, h1, h2, h3, h4, h5⟩ := hw
  refine ⟨d, h0, ⟨h1, h2⟩, fun k k1 k2 => ?_, fun k k1 k2 => ⟨(h4 k k1 k2).1, ?_⟩, hb, hj⟩
  · have z := h3 k k1 k2
    exact zokc_w z (fun i i1 i2 => by
      have i2 : i < 0 := i2
      omega)
  · have z := zdp_d h1 h3 (k - a).toNat (by omega)
    rw [show a + (((k - a).toNat : Nat) : Int) = k from by omega] at z
    rw [z]
    exact hB _ (by omega)
/-- the kinds of numbers at p -/
theorem zGD.at_ {C d : Int → Int} {a t p : Int} {m : Bool} (h : zGD C a t m d) (h1 : a ≤ p) (h2 : p < t) : (0 ≤ C p ∧ 0 ≤ d p ∧ d p ≤ 40 ∧ 0 ≤ d (p + 1) ∧ d (p + 1) ≤ 40) ∧
    ((C p < 1048576 ∧ d (p + 1) = d p + 1) ∨ ((1048576 ≤ C p ∧ C p < 1048583) ∧ d (p + 1) = d p + 1) ∨
     ((10485760 ≤ C p ∧ C p < 11534336) ∧ (a < p ∧ zbc (C (p - 1))) ∧ 1 ≤ d p ∧ d (p + 1) = d p) ∨
     ((11534336 ≤ C p ∧ C p < 13631488) ∧ (a < p ∧ zbc (C (p - 1))) ∧ d p = 1 ∧ d (p + 1) = 0 ∧ p < C p % 1048576 ∧ C p % 1048576 ≤ t ∧ d (C p % 1048576) = 1) ∨
     ((2097152 ≤ C p ∧ C p < 10485760) ∧ 2 ≤ d p ∧ d (p + 1) = d p - 1)) := by
  have z := h.2.2.1 p h1 h2
  have b0 := h.2.2.2.1 p h1 (by omega)
  have b1 := h.2.2.2.1 (p + 1) (by omega) (by omega)
  have bl := h.2.2.2.2.1.1 p h1 h2
  refine ⟨⟨z.1, b0.1, b0.2, b1.1, b1.2⟩, ?_⟩
  rcases z.2 with e | e | e | ⟨e1, e2, e3, e4 | ⟨i, i1, i2, -⟩⟩ | e
  · exact Or.inl e
  · exact Or.inr (Or.inl e)
  · exact Or.inr (Or.inr (Or.inl ⟨e.1, bl (by omega), e.2⟩))
  · exact Or.inr (Or.inr (Or.inr (Or.inl ⟨e1, bl (by omega), e2, e3, e4⟩)))
  · exact absurd i2 (by omega)
  · exact Or.inr (Or.inr (Or.inr (Or.inr e)))
def zVS (C F d : Int → Int) (a t V p : Int) (st : List Int) : Prop := (∃ k : Nat, t - p ≤ (k : Int) ∧ V = zev C F t k p st) ∧ (a ≤ p ∧ p ≤ t) ∧ (st.length : Int) = d p ∧ (a < p → zbc (C (p - 1)) → (zhd st = 0 ∨ zhd st = 1))
section VS
variable {C F d : Int → Int} {a t V p p2 v : Int} {m : Bool} {st r : List Int}
theorem zVS.new (hg : zGD C a t m d) : zVS C F d a t (zEV C F a t) a [] := ⟨⟨(t - a).toNat, by omega, rfl⟩, ⟨Int.le_refl _, hg.1.2.1⟩, hg.2.1.1.symm, fun h => absurd h (by omega)⟩
theorem zVS.pos (h : zVS C F d a t V p st) (hp : p < t) : ∃ k : Nat, t - p - 1 ≤ (k : Int) ∧ V = zev C F t (k + 1) p st := by
  obtain ⟨⟨k, hk, e⟩, hi⟩ := h
  cases k with
  | zero => omega
  | succ k => exact ⟨k, by omega, e⟩
theorem zVS.fin (h : zVS C F d a t V p st) (hp : p = t) : V = zhd st := by
  obtain ⟨⟨k, hk, e⟩, hi⟩ := h
  cases k with
  | zero => exact e
  | succ k => exact e.trans (if_pos (by omega))
theorem zVS.num (h : zVS C F d a t V p st) (hg : zGD C a t m d) (hp : p < t) (hc : C p < 1048576) (hv : v = C p) (h2 : p2 = p + 1) : zVS C F d a t V p2 (v :: st) := by
  obtain ⟨k, hk, e⟩ := h.pos hp
  have z := hg.at_ h.2.1.1 hp
  subst hv; subst h2
  exact ⟨⟨k, by omega, e.trans ((if_neg (by omega)).trans (if_pos hc))⟩, ⟨by have := h.2.1; omega, by omega⟩, by rw [zlenc, h.2.2.1]; omega, fun _ q => by
    rw [show p + 1 - 1 = p from by omega] at q
    unfold zbc at q
    omega⟩
theorem zVS.let_ (h : zVS C F d a t V p st) (hg : zGD C a t m d) (hp : p < t) (hc : 1048576 ≤ C p ∧ C p < 2097152) (hv : v = F (C p - 1048576)) (h2 : p2 = p + 1) : zVS C F d a t V p2 (v :: st) := by
  obtain ⟨k, hk, e⟩ := h.pos hp
  have z := hg.at_ h.2.1.1 hp
  subst hv; subst h2
  exact ⟨⟨k, by omega, e.trans ((if_neg (by omega)).trans ((if_neg (by omega)).trans (if_pos hc.2)))⟩, ⟨by have := h.2.1; omega, by omega⟩, by rw [zlenc, h.2.2.1]; omega, fun _ q => by
    rw [show p + 1 - 1 = p from by omega] at q
    unfold zbc at q
    omega⟩
/-- what is known of the top where it is asked -/
theorem zVS.top (h : zVS C F d a t V p st) (hg : zGD C a t m d) (hp : p < t) (hc : 10485760 ≤ C p) : 1 ≤ (st.length : Int) ∧ (zhd st = 0 ∨ zhd st = 1) := by
  have z := hg.at_ h.2.1.1 hp
  have l := h.2.2.1
  have q : a < p ∧ zbc (C (p - 1)) := by
    rcases z.2 with e | e | e | e | e
    · omega
    · omega
    · exact e.2.1
    · exact e.2.1
    · omega
  refine ⟨?_, h.2.2.2 q.1 q.2⟩
  have zz := z.2
  clear q
  rcases zz with e | e | e | e | e
  · omega
  · omega
  · have := e.2.2.1; omega
  · have := e.2.2.1; omega
  · omega
theorem zVS.not (h : zVS C F d a t V p st) (hg : zGD C a t m d) (hp : p < t) (hc : 10485760 ≤ C p ∧ C p < 11534336) (hv : v = 1 - zhd st) (hr : st = zhd st :: r) (h2 : p2 = p + 1) : zVS C F d a t V p2 (v :: r) := by
  obtain ⟨k, hk, e⟩ := h.pos hp
  have z := hg.at_ h.2.1.1 hp
  have tp := h.top hg hp hc.1
  have l := h.2.2.1
  subst hv; subst h2
  have er : ztl st = r := by rw [hr]; rfl
  have zz : d (p + 1) = d p := by
    rcases z.2 with e | e | e | e | e
    · omega
    · omega
    · exact e.2.2.2
    · omega
    · omega
  refine ⟨⟨k, by omega, e.trans ((if_neg (by omega)).trans ((if_neg (by omega)).trans ((if_neg (by omega)).trans ((if_pos (by omega)).trans (by rw [er])))))⟩, ⟨by have := h.2.1; omega, by omega⟩, ?_, fun _ _ => by show 1 - zhd st = 0 ∨ 1 - zhd st = 1; omega⟩
  rw [hr, zlenc] at l
  rw [zlenc]; omega
theorem zVS.jmp (h : zVS C F d a t V p st) (hg : zGD C a t m d) (hp : p < t) (hc : (11534336 ≤ C p ∧ C p < 12582912 ∧ zhd st = 0) ∨ (12582912 ≤ C p ∧ C p < 13631488 ∧ zhd st = 1)) (h2 : p2 = C p % 1048576) : zVS C F d a t V p2 st ∧ p < p2 := by
  obtain ⟨k, hk, e⟩ := h.pos hp
  have z := hg.at_ h.2.1.1 hp
  have tp := h.top hg hp (by omega)
  have l := h.2.2.1
  have zz : d p = 1 ∧ p < C p % 1048576 ∧ C p % 1048576 ≤ t ∧ d (C p % 1048576) = 1 := by
    rcases z.2 with e | e | e | e | e
    · omega
    · omega
    · omega
    · exact ⟨e.2.2.1, e.2.2.2.2.1, e.2.2.2.2.2.1, e.2.2.2.2.2.2⟩
    · omega
  subst h2
  refine ⟨⟨⟨k, by omega, e.trans ((if_neg (by omega)).trans ((if_neg (by omega)).trans ((if_neg (by omega)).trans ((if_neg (by omega)).trans ?_))))⟩, ⟨by have := h.2.1; omega, zz.2.2.1⟩, by omega, fun _ _ => tp.2⟩, zz.2.1⟩
  rcases hc with c | c
  · exact (if_pos (by omega)).trans (if_pos c.2.2)
  · exact (if_neg (by omega)).trans ((if_pos (by omega)).trans (if_pos c.2.2))
theorem zVS.stay (h : zVS C F d a t V p st) (hg : zGD C a t m d) (hp : p < t) (hc : (11534336 ≤ C p ∧ C p < 12582912 ∧ zhd st ≠ 0) ∨ (12582912 ≤ C p ∧ C p < 13631488 ∧ zhd st ≠ 1)) (hr : st = zhd st :: r) (h2 : p2 = p + 1) : zVS C F d a t V p2 r := by
  obtain ⟨k, hk, e⟩ := h.pos hp
  have z := hg.at_ h.2.1.1 hp
  have l := h.2.2.1
  have er : ztl st = r := by rw [hr]; rfl
  have zz : d p = 1 ∧ d (p + 1) = 0 := by
    rcases z.2 with e | e | e | e | e
    · omega
    · omega
    · omega
    · exact ⟨e.2.2.1, e.2.2.2.1⟩
    · omega
  subst h2
  refine ⟨⟨k, by omega, e.trans ((if_neg (by omega)).trans ((if_neg (by omega)).trans ((if_neg (by omega)).trans ((if_neg (by omega)).trans ?_))))⟩, ⟨by have := h.2.1; omega, by omega⟩, ?_, fun _ q => ?_⟩
  · rcases hc with c | c
    · exact (if_pos (by omega)).trans ((if_neg c.2.2).trans (by rw [er]))
    · exact (if_neg (by omega)).trans ((if_pos (by omega)).trans ((if_neg c.2.2).trans (by rw [er])))
  · rw [hr, zlenc] at l
    omega
  · rw [show p + 1 - 1 = p from by omega] at q
    unfold zbc at q
    omega
theorem zVS.zero (h : zVS C F d a t V p st) (hp : p < t) (hc : 5242880 ≤ C p ∧ C p < 7340032) (hz : zhd st = 0) : V = 0 := by
  obtain ⟨k, hk, e⟩ := h.pos hp
  exact e.trans ((if_neg (by omega)).trans ((if_neg (by omega)).trans ((if_neg (by omega)).trans ((if_neg (by omega)).trans ((if_neg (by omega)).trans ((if_neg (by omega)).trans (if_pos ⟨by omega, hz⟩)))))))
theorem zVS.op (h : zVS C F d a t V p st) (hg : zGD C a t m d) (hp : p < t) (hc : 2097152 ≤ C p ∧ C p < 10485760) (hz : ¬ ((5242880 ≤ C p ∧ C p < 7340032) ∧ zhd st = 0)) {x y : Int} (hr : st = y :: x :: r) (hv : v = zrk (C p / 1048576) x y) (h2 : p2 = p + 1) : zVS C F d a t V p2 (v :: r) := by
  obtain ⟨k, hk, e⟩ := h.pos hp
  have z := hg.at_ h.2.1.1 hp
  have l := h.2.2.1
  have zz : d (p + 1) = d p - 1 := by
    rcases z.2 with e | e | e | e | e
    · omega
    · omega
    · omega
    · omega
    · exact e.2.2
  subst h2; subst hr; subst hv
  refine ⟨⟨k, by omega, e.trans ((if_neg (by omega)).trans ((if_neg (by omega)).trans ((if_neg (by omega)).trans ((if_neg (by omega)).trans ((if_neg (by omega)).trans ((if_neg (by omega)).trans (if_neg ?_)))))))⟩, ⟨by have := h.2.1; omega, by omega⟩, ?_, fun _ q => ?_⟩
  · intro q
    exact hz ⟨by omega, q.2⟩
  · rw [zlenc, zlenc] at l
    rw [zlenc]; omega
  · rw [show p + 1 - 1 = p from by omega] at q
    unfold zbc at q
    exact zrk_b _ _ _ (by omega)
end VS
/-- the class's orders, by the numbers -/
theorem zom_k {v : Int} (h : 0 ≤ v ∧ v < 13631488) : (v < 1048576 ∧ zom v = 1) ∨ ((1048576 ≤ v ∧ v < 2097152) ∧ zom v = 2) ∨ ((2097152 ≤ v ∧ v < 10485760) ∧ (zom v = 43 ∨ zom v = 45 ∨ zom v = 42 ∨ zom v = 47 ∨ zom v = 37 ∨ zom v = 60 ∨ zom v = 62 ∨ zom v = 61)) ∨ ((10485760 ≤ v ∧ v < 11534336) ∧ zom v = 3) ∨ ((11534336 ≤ v ∧ v < 12582912) ∧ zom v = 4) ∨ (12582912 ≤ v ∧ zom v = 5) := by
  unfold zom
  (repeat' split) <;> omega
theorem zwm_k {s v : Int} (h : 0 ≤ v ∧ v < 13631488) : (v < 1048576 → zwm s v = v) ∧ (1048576 ≤ v → v < 2097152 → zwm s v = v - 1048576) ∧ (11534336 ≤ v → v % 1048576 ≠ 0 → zwm s v = v % 1048576 + s) := by
  unfold zwm
  refine ⟨fun q => if_pos q, fun q1 q2 => ?_, fun q1 q2 => ?_⟩
  · rw [if_neg (by omega), if_pos q2]
  · rw [if_neg (by omega), if_neg (by omega), if_neg (by omega), if_neg q2]
theorem zom_z {v : Int} (h : 0 ≤ v ∧ v < 13631488) : (zom v = 47 → 5242880 ≤ v ∧ v < 6291456) ∧ (zom v = 37 → 6291456 ≤ v ∧ v < 7340032) ∧ (5242880 ≤ v → v < 7340032 → zom v = 47 ∨ zom v = 37) := by
  unfold zom
  (repeat' split) <;> omega
/-! ===== stacks ===== -/
def zl1 (w : Int → Int) (n : Int) : List Int := zls w 1 n.toNat
def zl0 (w : Int → Int) (n : Int) : List Int := zls w 0 n.toNat
theorem zl1_0 (w : Int → Int) {n : Int} (h : n = 0) : zl1 w n = [] := by subst h; rfl
theorem zl0_0 (w : Int → Int) {n : Int} (h : n = 0) : zl0 w n = [] := by subst h; rfl
theorem zl1_l (w : Int → Int) {n : Int} (h : 0 ≤ n) : ((zl1 w n).length : Int) = n := by
  unfold zl1
  rw [zls_l]; omega
theorem zl0_l (w : Int → Int) {n : Int} (h : 0 ≤ n) : ((zl0 w n).length : Int) = n := by
  unfold zl0
  rw [zls_l]; omega
theorem zl1_pop (w : Int → Int) {n : Int} (h : 1 ≤ n) : zl1 w n = w n :: zl1 w (n - 1) := by
  unfold zl1
  rw [show n.toNat = (n - 1).toNat + 1 from by omega]
  show w (1 + ((n - 1).toNat : Nat)) :: zls w 1 (n - 1).toNat = _
  rw [show 1 + (((n - 1).toNat : Nat) : Int) = n from by omega]
theorem zl0_pop (w : Int → Int) {n : Int} (h : 1 ≤ n) : zl0 w n = w (n - 1) :: zl0 w (n - 1) := by
  unfold zl0
  rw [show n.toNat = (n - 1).toNat + 1 from by omega]
  show w (0 + ((n - 1).toNat : Nat)) :: zls w 0 (n - 1).toNat = _
  rw [show 0 + (((n - 1).toNat : Nat) : Int) = n - 1 from by omega]
theorem zl1_put (w : Int → Int) {n k v : Int} (hk : k = n) (h : 1 ≤ n) : zl1 (xud w k v) n = v :: zl1 w (n - 1) := by
  subst hk
  rw [zl1_pop _ h, xud_s]
  unfold zl1
  rw [zls_f _ (fun i h1 h2 => xud_o w v (by omega))]
theorem zl0_put (w : Int → Int) {n k v : Int} (hk : k = n - 1) (h : 1 ≤ n) : zl0 (xud w k v) n = v :: zl0 w (n - 1) := by
  subst hk
  rw [zl0_pop _ h, xud_s]
  unfold zl0
  rw [zls_f _ (fun i h1 h2 => xud_o w v (by omega))]
theorem zl1_push (w : Int → Int) {n k v : Int} (hk : k = n + 1) (h : 0 ≤ n) : zl1 (xud w k v) k = v :: zl1 w n := by
  have e := zl1_put w (n := k) (k := k) (v := v) rfl (by omega)
  rw [e, show k - 1 = n from by omega]
theorem zl0_push (w : Int → Int) {n k v : Int} (hk : k = n) {n2 : Int} (h2 : n2 = n + 1) (h : 0 ≤ n) : zl0 (xud w k v) n2 = v :: zl0 w n := by
  have e := zl0_put w (n := n2) (k := k) (v := v) (by omega) (by omega)
  rw [e, show n2 - 1 = n from by omega]


