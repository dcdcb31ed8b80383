set_option maxHeartbeats 4000000 in
set_option maxRecDepth 100000 in
theorem c_X9_stepOfW (l : Launch) (D : va_G) (g : xG) (T : Nat × Nat × Nat) (h0 : Nat) (s0 : xS) (hσ : xRR s0) (x : Int) (rx : xR x) : Met l yX9_stepOf (xws yX9_stepOf cX9_stepOf 1 (some .int)) { frames := 0, cells := 0, slots := 0, locals := 0 } (xP [.int (xJ x)] D g T h0 s0) (xQi D g h0 (fun r τ => s0 = τ ∧ ((x = 110 ∧ r = 0) ∨ (x = 101 ∧ r = 1) ∨ (x = 115 ∧ r = 2) ∨ (x = 119 ∧ r = 3) ∨ (x = 46 ∧ r = 4) ∨ (x ≠ 110 ∧ x ≠ 101 ∧ x ≠ 115 ∧ x ≠ 119 ∧ x ≠ 46 ∧ r = -1)))) 0 0 (xA h0) := by
  refine x_met hσ (by decide) (Nat.le_of_ble_eq_true rfl) ?_
  intro p e s m args below meth c hx hb hr hml hown hT hlk hnm hE hW ls hl
  have hl : lv_has ls 1 [(0, .int (xJ x))] := hl
  obtain ⟨Q, eQ⟩ : ∃ Q, Q = MQ below (xQi D g h0 (fun r τ => s0 = τ ∧ ((x = 110 ∧ r = 0) ∨ (x = 101 ∧ r = 1) ∨ (x = 115 ∧ r = 2) ∨ (x = 119 ∧ r = 3) ∨ (x = 46 ∧ r = 4) ∨ (x ≠ 110 ∧ x ≠ 101 ∧ x ≠ 115 ∧ x ≠ 119 ∧ x ≠ 46 ∧ r = -1)))) args s 0 0 (xA h0) := ⟨_, rfl⟩
  rw [← eQ]
  generalize hHe : ([] : List Loc) = locs at hW ⊢
  obtain ⟨H, eH⟩ : ∃ H, H = s.heap := ⟨_, rfl⟩
  rw [← eH] at hW ⊢
  refine x_iload_n hx hb hl 0 rfl dX9_stepOf_0 rfl ?_
  rcases (show (x ≠ 46 ∧ x ≠ 101 ∧ x ≠ 110 ∧ x ≠ 115 ∧ x ≠ 119) ∨ x = 46 ∨ x = 101 ∨ x = 110 ∨ x = 115 ∨ x = 119 from by omega) with c1 | c1 | c1 | c1 | c1 | c1
  · refine x_look (tgt := 62) (off := 61) hx hb rx dX9_stepOf_1 rfl (xlk_n (by simp; omega)) (by decide) ?_
    refine x_iconst hx hb dX9_stepOf_62 ?_
    rw [eQ]
    exact x_iret hx hb hr hlk hW (by decide) ⟨rfl, by omega⟩ dX9_stepOf_63
  · refine x_look (tgt := 60) (off := 59) hx hb rx dX9_stepOf_1 rfl (by rw [c1]; rfl) (by decide) ?_
    refine x_iconst hx hb dX9_stepOf_60 ?_
    rw [eQ]
    exact x_iret hx hb hr hlk hW (by decide) ⟨rfl, by omega⟩ dX9_stepOf_61
  · refine x_look (tgt := 54) (off := 53) hx hb rx dX9_stepOf_1 rfl (by rw [c1]; rfl) (by decide) ?_
    refine x_iconst hx hb dX9_stepOf_54 ?_
    rw [eQ]
    exact x_iret hx hb hr hlk hW (by decide) ⟨rfl, by omega⟩ dX9_stepOf_55
  · refine x_look (tgt := 52) (off := 51) hx hb rx dX9_stepOf_1 rfl (by rw [c1]; rfl) (by decide) ?_
    refine x_iconst hx hb dX9_stepOf_52 ?_
    rw [eQ]
    exact x_iret hx hb hr hlk hW (by decide) ⟨rfl, by omega⟩ dX9_stepOf_53
  · refine x_look (tgt := 56) (off := 55) hx hb rx dX9_stepOf_1 rfl (by rw [c1]; rfl) (by decide) ?_
    refine x_iconst hx hb dX9_stepOf_56 ?_
    rw [eQ]
    exact x_iret hx hb hr hlk hW (by decide) ⟨rfl, by omega⟩ dX9_stepOf_57
  · refine x_look (tgt := 58) (off := 57) hx hb rx dX9_stepOf_1 rfl (by rw [c1]; rfl) (by decide) ?_
    refine x_iconst hx hb dX9_stepOf_58 ?_
    rw [eQ]
    exact x_iret hx hb hr hlk hW (by decide) ⟨rfl, by omega⟩ dX9_stepOf_59
set_option maxHeartbeats 4000000 in
set_option maxRecDepth 100000 in
theorem c_X9_repeatW (l : Launch) (D : va_G) (g : xG) (T : Nat × Nat × Nat) (h0 : Nat) (s0 : xS) (hσ : xRR s0) (a : Int) (ra : xR a) (b : Int) (rb : xR b) (ha0 : 0 ≤ a ∧ a < s0 126 2 ∧ s0 126 2 ≤ 60) (hb0 : 0 ≤ b ∧ b ≤ 8) (p0 : IC s0) : Met l yX9_repeat (xws yX9_repeat cX9_repeat 5 (some .boolean)) { frames := 0, cells := 0, slots := 0, locals := 0 } (xP [.ref (h0 + 126), .int (xJ a), .int (xJ b)] D g T h0 s0) (xQi D g h0 (fun r τ => xFr (fun k => k = 126 ∨ k = 127) s0 τ ∧ (((IC τ) ∧ True) ∧ ((r = 1 ∧ s0 126 2 + b * (s0 126 2 - a) ≤ 60 ∧ τ 126 2 = s0 126 2 + b * (s0 126 2 - a) ∧ τ 127 = wrep (s0 127) a (s0 126 2) (b * (s0 126 2 - a))) ∨ (r = 0 ∧ 60 < s0 126 2 + b * (s0 126 2 - a) ∧ τ 126 2 = s0 126 2 ∧ τ 127 = s0 127))))) 0 0 (xA h0) := by
  refine x_met hσ (by decide) (Nat.le_of_ble_eq_true rfl) ?_
  intro p e s m args below meth c hx hb hr hml hown hT hlk hnm hE hW ls hl
  have hl : lv_has ls 5 [(0, .ref (h0 + 126)), (1, .int (xJ a)), (2, .int (xJ b))] := hl
  obtain ⟨Q, eQ⟩ : ∃ Q, Q = MQ below (xQi D g h0 (fun r τ => xFr (fun k => k = 126 ∨ k = 127) s0 τ ∧ (((IC τ) ∧ True) ∧ ((r = 1 ∧ s0 126 2 + b * (s0 126 2 - a) ≤ 60 ∧ τ 126 2 = s0 126 2 + b * (s0 126 2 - a) ∧ τ 127 = wrep (s0 127) a (s0 126 2) (b * (s0 126 2 - a))) ∨ (r = 0 ∧ 60 < s0 126 2 + b * (s0 126 2 - a) ∧ τ 126 2 = s0 126 2 ∧ τ 127 = s0 127))))) args s 0 0 (xA h0) := ⟨_, rfl⟩
  rw [← eQ]
  generalize hHe : ([] : List Loc) = locs at hW ⊢
  obtain ⟨H, eH⟩ : ∃ H, H = s.heap := ⟨_, rfl⟩
  rw [← eH] at hW ⊢
  have hF : xFr (fun k => k = 126 ∨ k = 127) s0 s0 := xFr.rf
  have k1_1 : s0 1 1 = s0 1 1 := rfl
  have k126_2 : s0 126 2 = s0 126 2 := rfl
  refine x_aload_n hx hb hl 0 rfl dX9_repeat_0 rfl ?_
  refine x_get (j := 2) (v := .int (xJ (s0 126 2))) hx hb hown hT hE hW cls_X9 (Or.inl (by decide)) (so_126 h0 g _) (by decide) rfl wq309 dX9_repeat_1 ?_
  refine x_rd hW (fun x1 ex1 rx1 => ?_)
  have bx1 : 0 ≤ x1 ∧ x1 ≤ 60 := by rw [ex1]; exact IC.y p0
  have fx1 : x1 = s0 126 2 := ex1.trans k126_2
  refine x_iload_n hx hb hl 1 rfl dX9_repeat_4 rfl ?_
  refine x_isub hx hb dX9_repeat_5 ?_
  refine x_nm (fun x2 ex2 => ?_)
  refine lv_istore_n (lv' := [(3, .int (xJ x2)), (0, .ref (h0 + 126)), (1, .int (xJ a)), (2, .int (xJ b))]) hx hb dX9_repeat_6 rfl hl (by decide) rfl (fun ls hl => ?_)
  have X6 : x2 = s0 126 2 - a := by omega
  refine x_aload_n hx hb hl 1 rfl dX9_repeat_7 rfl ?_
  refine x_get (j := 2) (v := .int (xJ (s0 126 2))) hx hb hown hT hE hW cls_X9 (Or.inl (by decide)) (so_126 h0 g _) (by decide) rfl wq309 dX9_repeat_8 ?_
  refine x_rd hW (fun x3 ex3 rx3 => ?_)
  have bx3 : 0 ≤ x3 ∧ x3 ≤ 60 := by rw [ex3]; exact IC.y p0
  have fx3 : x3 = s0 126 2 := ex3.trans k126_2
  refine x_iload_n hx hb hl 3 rfl dX9_repeat_11 rfl ?_
  refine x_iload_n hx hb hl 0 rfl dX9_repeat_12 rfl ?_
  refine x_imul hx hb dX9_repeat_13 ?_
  have mb := xmulb (by omega : -1 ≤ b ∧ b ≤ 9) (by omega : -60 ≤ x2 ∧ x2 ≤ 60)
  have mc := xmuls (b := x2) (by omega : 0 ≤ b ∧ b ≤ 9)
  have md : 0 ≤ b * x2 := Int.mul_nonneg hb0.1 (by omega)
  refine x_iadd hx hb dX9_repeat_14 ?_
  refine x_bipush hx hb dX9_repeat_15 (by decide) ?_
  refine x_icmp_le (tgt := 22) hx hb (by omega) (by decide) dX9_repeat_17 (by decide) (fun c4 => ?_) (fun c4 => ?_)
  · skip
    refine x_iconst hx hb dX9_repeat_22 ?_
    refine lv_istore (lv' := [(4, .int (xJ 0)), (3, .int (xJ x2)), (0, .ref (h0 + 126)), (1, .int (xJ a)), (2, .int (xJ b))]) hx hb dX9_repeat_23 hl (by decide) rfl (fun ls hl => ?_)
    have L25 : ∀ (fu : Nat) (i4_25 : Int) (s_25 : xS) (H : Heap) (locs : List Loc) (ls : Array Slot), (xR i4_25) → (xFr (fun k => k = 126 ∨ k = 127) s0 s_25) → (IC s_25) → (s_25 1 1 = s0 1 1) → (0 ≤ i4_25 ∧ i4_25 ≤ b * x2) → (s_25 126 2 = s0 126 2 + i4_25) → (s_25 127 = wrep (s0 127) a (s0 126 2) i4_25) → (b * x2 - i4_25).toNat < fu → xW D g h0 s H locs s_25 → lv_has ls 5 [(0, .ref (h0 + 126)), (1, .int (xJ a)), (2, .int (xJ b)), (3, .int (xJ x2)), (4, .int (xJ i4_25))] → W p l e { frames := 0, cells := 0, slots := 0, locals := 0 } s m args below meth c H locs 0 0 Q (F0 m 25 ls []) := by
      intro fu
      induction fu with
      | zero => intro i4_25 s_25 H locs ls ri4_25 hF_25 q25_0 q25_1 v25_0 v25_1 v25_2 hm; exact absurd hm (Nat.not_lt_zero _)
      | succ fu ih25 =>
        intro i4_25 s_25 H locs ls ri4_25 hF_25 q25_0 q25_1 v25_0 v25_1 v25_2 hm hW hl
        refine x_iload hx hb hl 4 rfl dX9_repeat_25 ?_
        refine x_iload_n hx hb hl 2 rfl dX9_repeat_27 rfl ?_
        refine x_iload_n hx hb hl 3 rfl dX9_repeat_28 rfl ?_
        refine x_imul hx hb dX9_repeat_29 ?_
        refine x_icmp_ge (tgt := 80) hx hb ri4_25 (by omega) dX9_repeat_30 (by decide) (fun c5 => ?_) (fun c5 => ?_)
        · skip
          refine x_iconst hx hb dX9_repeat_80 ?_
          rw [eQ]
          exact x_zret hx hb hr hlk hW (by omega) ⟨hF_25, ⟨q25_0, trivial⟩, Or.inl ⟨by omega, by rw [← X6]; omega, by rw [← X6]; omega, by rw [← X6]; exact v25_2.trans (wrep_c (by omega))⟩⟩ dX9_repeat_81
        refine x_iload_n hx hb hl 1 rfl dX9_repeat_33 rfl ?_
        refine x_if_lt (tgt := 80) hx hb ra dX9_repeat_34 (by decide) (fun c6 => False.elim (by omega)) (fun c6 => ?_)
        refine x_aload_n hx hb hl 0 rfl dX9_repeat_37 rfl ?_
        refine x_get (j := 2) (v := .int (xJ (s_25 126 2))) hx hb hown hT hE hW cls_X9 (Or.inl (by decide)) (so_126 h0 g _) (by decide) rfl wq309 dX9_repeat_38 ?_
        refine x_rd hW (fun x7 ex7 rx7 => ?_)
        have bx7 : 0 ≤ x7 ∧ x7 ≤ 60 := by rw [ex7]; exact IC.y q25_0
        have q8 : s_25 126 2 = x7 := ex7.symm
        refine x_bipush hx hb dX9_repeat_41 (by decide) ?_
        refine x_icmp_ge (tgt := 80) hx hb rx7 (by decide) dX9_repeat_43 (by decide) (fun c9 => False.elim (by omega)) (fun c9 => ?_)
        refine x_aload_n hx hb hl 0 rfl dX9_repeat_46 rfl ?_
        refine x_get (j := 1) (v := .ref (h0 + 127)) hx hb hown hT hE hW cls_X9 (Or.inl (by decide)) (so_126 h0 g _) (by decide) rfl wq308 dX9_repeat_47 ?_
        refine x_aload_n hx hb hl 0 rfl dX9_repeat_50 rfl ?_
        refine x_get (j := 2) (v := .int (xJ (s_25 126 2))) hx hb hown hT hE hW cls_X9 (Or.inl (by decide)) (so_126 h0 g _) (by decide) rfl wq309 dX9_repeat_51 ?_
        refine x_rd hW (fun x10 ex10 rx10 => ?_)
        have bx10 : 0 ≤ x10 ∧ x10 ≤ 60 := by rw [ex10]; exact IC.y q25_0
        have fx10 : x10 = x7 := ex10.trans q8
        refine x_aload_n hx hb hl 0 rfl dX9_repeat_54 rfl ?_
        refine x_get (j := 1) (v := .ref (h0 + 127)) hx hb hown hT hE hW cls_X9 (Or.inl (by decide)) (so_126 h0 g _) (by decide) rfl wq308 dX9_repeat_55 ?_
        refine x_iload_n hx hb hl 1 rfl dX9_repeat_58 rfl ?_
        refine x_iload hx hb hl 4 rfl dX9_repeat_59 ?_
        refine x_iadd hx hb dX9_repeat_61 ?_
        refine x_iald hx hb hE hW (Or.inl (by decide)) (sa_127 h0 g _) (by omega) (by decide) dX9_repeat_62 ?_
        refine x_rd hW (fun x11 ex11 rx11 => ?_)
        have R62 := ex11
        refine x_iast hx hb hE hW (by decide) (fun σ => sa_127 h0 g σ) (by omega) (by decide) rx11 dX9_repeat_63 (fun H locs s12 es12 hW => ?_)
        have q13 : IC s12 := by rw [es12]; exact IC_o (by decide) q25_0
        have q14 : s12 1 1 = s0 1 1 := (show s12 1 1 = s_25 1 1 from by rw [es12, xU_k _ _ _ (by omega)]).trans q25_1
        have q15 : s12 126 2 = x7 := (show s12 126 2 = s_25 126 2 from by rw [es12, xU_k _ _ _ (by omega)]).trans q8
        have hF16 := hF_25.put es12 (by omega)
        have A63 : s12 127 = wrep (s0 127) a (s0 126 2) (i4_25 + 1) := by rw [es12, xU_xud]; exact wrep_s v25_2 (by omega) (by omega) (by omega) R62 rfl
        refine x_aload_n hx hb hl 0 rfl dX9_repeat_64 rfl ?_
        refine lv_dup hx hb dX9_repeat_65 rfl ?_
        refine x_get (j := 2) (v := .int (xJ (s12 126 2))) hx hb hown hT hE hW cls_X9 (Or.inl (by decide)) (so_126 h0 g _) (by decide) rfl wq309 dX9_repeat_66 ?_
        refine x_rd hW (fun x17 ex17 rx17 => ?_)
        have bx17 : 0 ≤ x17 ∧ x17 ≤ 60 := by rw [ex17]; exact IC.y q13
        have fx17 : x17 = x7 := ex17.trans q15
        refine x_iconst hx hb dX9_repeat_69 ?_
        refine x_iadd hx hb dX9_repeat_70 ?_
        refine x_put (j := 2) hx hb hown hT hE hW cls_X9 (by decide) (fun σ => so_126 h0 g σ) (by decide) (st_X9_2 h0 s12 126 (x17 + 1)) (ln_X9_2 h0 _ _) wq309 rfl rfl rfl (by omega) dX9_repeat_71 (fun H locs s18 es18 hW => ?_)
        have q19 : IC s18 := by rw [es18]; exact IC_126 q13 (by omega)
        have q20 : s18 1 1 = s0 1 1 := (show s18 1 1 = s12 1 1 from by rw [es18, xU_k _ _ _ (by omega)]).trans q14
        have q21 : s18 126 2 = (x17 + 1) := by rw [es18, xU_s]
        have hF22 := hF16.put es18 (by omega)
        refine x_iinc (lv' := [(4, .int (xJ (i4_25 + 1))), (0, .ref (h0 + 126)), (1, .int (xJ a)), (2, .int (xJ b)), (3, .int (xJ x2))]) hx hb hl 4 rfl dX9_repeat_74 (by decide) rfl (fun ls hl => ?_)
        refine lv_goto (tgt := 25) hx hb dX9_repeat_77 (by decide) ?_
        exact ih25 (i4_25 + 1) s18 H locs ls (by omega) hF22 q19 q20 (by omega) (by omega) (by rw [es18, xU_k _ _ _ (by omega)]; exact A63) (by omega) hW (lv_sub hl [1, 2, 3, 4, 0] rfl)
    exact L25 ((b * x2 - 0 : Int).toNat + 1) 0 s0 H locs ls (by decide) hF p0 k1_1 (by omega) (by omega) ((wrep_0 _ _ _ rfl).symm) (Nat.lt_succ_self _) hW (lv_sub hl [2, 3, 4, 1, 0] rfl)
  refine x_iconst hx hb dX9_repeat_20 ?_
  rw [eQ]
  exact x_zret hx hb hr hlk hW (by omega) ⟨hF, ⟨p0, trivial⟩, Or.inr ⟨by omega, by rw [← X6]; omega, by omega, rfl⟩⟩ dX9_repeat_21
set_option maxHeartbeats 4000000 in
set_option maxRecDepth 100000 in
theorem c_X9_readStepW2 (l : Launch) (D : va_G) (g : xG) (T : Nat × Nat × Nat) (h0 : Nat) (s0 : xS) (hσ : xRR s0) (q : Int) (rq : xR q) (Z : Int × Int × (Int → Int)) (st : List (Int × Int × Int)) (hq : q = 2) (hst : st.length = 2) (hat : 0 ≤ s0 1 3 ∧ s0 1 3 ≤ s0 1 2 ∧ s0 1 2 ≤ 80) (hz : zWS (s0 2) (s0 1 2) 1 Z true (s0 1 3) (s0 126 2) (s0 127) st) (p0 : IC s0) : Met l yX9_readStep (xws yX9_readStep cX9_readStep 6 (some .boolean)) { frames := 1, cells := 0, slots := 0, locals := 24 } (xP [.ref (h0 + 126), .int (xJ q)] D g T h0 s0) (xQi D g h0 (fun r τ => xFr (fun k => k = 1 ∨ k = 126 ∨ k = 127) s0 τ ∧ (((IC τ) ∧ (τ 1 1 = s0 1 1) ∧ (τ 1 2 = s0 1 2) ∧ True) ∧ ((r = 1 ∧ zWS (s0 2) (s0 1 2) 1 Z false (τ 1 3) (τ 126 2) (τ 127) st ∧ s0 1 3 + 1 ≤ τ 1 3 ∧ τ 1 3 ≤ s0 1 2 ∧ s0 126 2 < τ 126 2) ∨ (r = 0 ∧ Z.1 ≠ 0 ∧ τ 1 4 = Z.1))))) 0 0 (xA h0) := by
  refine x_met hσ (by decide) (Nat.le_of_ble_eq_true rfl) ?_
  intro p e s m args below meth c hx hb hr hml hown hT hlk hnm hE hW ls hl
  have hl : lv_has ls 6 [(0, .ref (h0 + 126)), (1, .int (xJ q))] := hl
  obtain ⟨Q, eQ⟩ : ∃ Q, Q = MQ below (xQi D g h0 (fun r τ => xFr (fun k => k = 1 ∨ k = 126 ∨ k = 127) s0 τ ∧ (((IC τ) ∧ (τ 1 1 = s0 1 1) ∧ (τ 1 2 = s0 1 2) ∧ True) ∧ ((r = 1 ∧ zWS (s0 2) (s0 1 2) 1 Z false (τ 1 3) (τ 126 2) (τ 127) st ∧ s0 1 3 + 1 ≤ τ 1 3 ∧ τ 1 3 ≤ s0 1 2 ∧ s0 126 2 < τ 126 2) ∨ (r = 0 ∧ Z.1 ≠ 0 ∧ τ 1 4 = Z.1))))) args s 0 0 (xA h0) := ⟨_, rfl⟩
  rw [← eQ]
  generalize hHe : ([] : List Loc) = locs at hW ⊢
  obtain ⟨H, eH⟩ : ∃ H, H = s.heap := ⟨_, rfl⟩
  rw [← eH] at hW ⊢
  have hF : xFr (fun k => k = 1 ∨ k = 126 ∨ k = 127) s0 s0 := xFr.rf
  have k1_1 : s0 1 1 = s0 1 1 := rfl
  have k1_2 : s0 1 2 = s0 1 2 := rfl
  have k1_3 : s0 1 3 = s0 1 3 := rfl
  have k126_2 : s0 126 2 = s0 126 2 := rfl
  refine x_aload_n hx hb hl 0 rfl dX9_readStep_0 rfl ?_
  refine x_get (j := 0) (v := .ref (h0 + 1)) hx hb hown hT hE hW cls_X9 (Or.inl (by decide)) (so_126 h0 g _) (by decide) rfl wq307 dX9_readStep_1 ?_
  refine x_getN (j := 3) (v := .int (xJ (s0 1 3))) hx hb hown hT hE hW cls_X8 (Or.inl (by decide)) (so_1 h0 g _) (by decide) rfl wn202 dX9_readStep_4 ?_
  refine x_rd hW (fun x1 ex1 rx1 => ?_)
  have fx1 : x1 = s0 1 3 := ex1.trans k1_3
  refine lv_istore_n (lv' := [(2, .int (xJ x1)), (0, .ref (h0 + 126)), (1, .int (xJ q))]) hx hb dX9_readStep_7 rfl hl (by decide) rfl (fun ls hl => ?_)
  refine x_aload_n hx hb hl 1 rfl dX9_readStep_8 rfl ?_
  refine x_get (j := 2) (v := .int (xJ (s0 126 2))) hx hb hown hT hE hW cls_X9 (Or.inl (by decide)) (so_126 h0 g _) (by decide) rfl wq309 dX9_readStep_9 ?_
  refine x_rd hW (fun x2 ex2 rx2 => ?_)
  have bx2 : 0 ≤ x2 ∧ x2 ≤ 60 := by rw [ex2]; exact IC.y p0
  have fx2 : x2 = s0 126 2 := ex2.trans k126_2
  refine lv_istore_n (lv' := [(3, .int (xJ x2)), (2, .int (xJ x1)), (0, .ref (h0 + 126)), (1, .int (xJ q))]) hx hb dX9_readStep_12 rfl hl (by decide) rfl (fun ls hl => ?_)
  refine x_iconst hx hb dX9_readStep_13 ?_
  refine lv_istore (lv' := [(4, .int (xJ 1)), (3, .int (xJ x2)), (2, .int (xJ x1)), (0, .ref (h0 + 126)), (1, .int (xJ q))]) hx hb dX9_readStep_14 hl (by decide) rfl (fun ls hl => ?_)
  refine x_aload_n hx hb hl 3 rfl dX9_readStep_16 rfl ?_
  refine x_get (j := 0) (v := .ref (h0 + 1)) hx hb hown hT hE hW cls_X9 (Or.inl (by decide)) (so_126 h0 g _) (by decide) rfl wq307 dX9_readStep_17 ?_
  refine x_goi (x_runVN (As := []) hx hb hml hown hT hE hW hl.1 (Or.inl (by decide)) (so_1 h0 g _) rfl cf_X8_sign wq581 wq4 wn727 (c_X8_sign l D g T h0 s0 hW.2.1 p0) ⟨rfl, rfl, ⟨by decide, by decide⟩, ⟨by decide, by decide⟩⟩ rfl rfl (Nat.le_of_ble_eq_true rfl) dX9_readStep_20) hW (fun x3 s4 H locs rx3 hp5 hW => ?_)
  obtain ⟨es4, hp5⟩ := hp5
  subst es4
  have ghp5 := hp5
  have C20 : x3 = zch (s0 2) (s0 1 2) (s0 1 3) := zch_i (by omega)
  have T20 := wtm_cs (zch (s0 2) (s0 1 2) (s0 1 3))
  have P20 := wp1_cs (s0 2) (s0 1 2) (s0 1 3)
  have X20 : zch (s0 2) (s0 1 2) (s0 1 3) ≠ -1 → s0 1 3 < s0 1 2 := zch_lt
  refine x_bipush hx hb dX9_readStep_23 (by decide) ?_
  have J65 : ∀ (i4_65 : Int) (s_65 : xS) (H : Heap) (locs : List Loc) (ls : Array Slot), (xR i4_65) → (xFr (fun k => k = 1 ∨ k = 126 ∨ k = 127) s0 s_65) → (IC s_65) → (s_65 1 1 = s0 1 1) → (s_65 1 2 = s0 1 2) → (s_65 126 2 = s0 126 2) → (1 ≤ i4_65 ∧ i4_65 ≤ 9) → (i4_65 = wtm (zch (s0 2) (s0 1 2) (s0 1 3)) ∧ s_65 1 3 = wp1 (s0 2) (s0 1 2) (s0 1 3)) → (s_65 1 3 ≤ s0 1 2) → (s_65 126 2 = s0 126 2 ∧ s_65 127 = s0 127) → xW D g h0 s H locs s_65 → lv_has ls 6 [(0, .ref (h0 + 126)), (1, .int (xJ q)), (2, .int (xJ x1)), (3, .int (xJ x2)), (4, .int (xJ i4_65))] → W p l e { frames := 1, cells := 0, slots := 0, locals := 24 } s m args below meth c H locs 0 0 Q (F0 m 65 ls []) := by
    intro i4_65 s_65 H locs ls ri4_65 hF_65 q65_0 q65_1 q65_2 q65_4 v65_0 v65_1 v65_2 v65_3 hW hl
    refine x_aload_n hx hb hl 0 rfl dX9_readStep_65 rfl ?_
    refine x_get (j := 0) (v := .ref (h0 + 1)) hx hb hown hT hE hW cls_X9 (Or.inl (by decide)) (so_126 h0 g _) (by decide) rfl wq307 dX9_readStep_66 ?_
    refine x_goi (x_runVN (As := []) hx hb hml hown hT hE hW hl.1 (Or.inl (by decide)) (so_1 h0 g _) rfl cf_X8_sign wq581 wq4 wn727 (c_X8_sign l D g T h0 s_65 hW.2.1 q65_0) ⟨rfl, rfl, ⟨by decide, by decide⟩, ⟨by decide, by decide⟩⟩ rfl rfl (Nat.le_of_ble_eq_true rfl) dX9_readStep_69) hW (fun x6 s7 H locs rx6 hp8 hW => ?_)
    obtain ⟨es7, hp8⟩ := hp8
    subst es7
    have ghp8 := hp8
    have C69 : x6 = zch (s0 2) (s0 1 2) (s_65 1 3) := zch_i (by have q := congrFun (hF_65 2 (by omega)) (s_65 1 3); omega)
    have X69 : zch (s0 2) (s0 1 2) (s_65 1 3) ≠ -1 → s_65 1 3 < s0 1 2 := zch_lt
    refine x_bipush hx hb dX9_readStep_72 (by decide) ?_
    refine x_icmp_ne (tgt := 166) hx hb rx6 (by decide) dX9_readStep_74 (by decide) (fun c9 => ?_) (fun c9 => ?_)
    · skip
      refine x_aload_n hx hb hl 0 rfl dX9_readStep_166 rfl ?_
      refine x_get (j := 0) (v := .ref (h0 + 1)) hx hb hown hT hE hW cls_X9 (Or.inl (by decide)) (so_126 h0 g _) (by decide) rfl wq307 dX9_readStep_167 ?_
      refine x_goi (x_runVN (As := []) hx hb hml hown hT hE hW hl.1 (Or.inl (by decide)) (so_1 h0 g _) rfl cf_X8_sign wq581 wq4 wn727 (c_X8_sign l D g T h0 s_65 hW.2.1 q65_0) ⟨rfl, rfl, ⟨by decide, by decide⟩, ⟨by decide, by decide⟩⟩ rfl rfl (Nat.le_of_ble_eq_true rfl) dX9_readStep_170) hW (fun x10 s11 H locs rx10 hp12 hW => ?_)
      obtain ⟨es11, hp12⟩ := hp12
      subst es11
      have ghp12 := hp12
      have C170 : x10 = zch (s0 2) (s0 1 2) (s_65 1 3) := zch_i (by have q := congrFun (hF_65 2 (by omega)) (s_65 1 3); omega)
      refine x_goi (x_runS (As := [.int (xJ x10)]) hx hb hml hown hT hE hW hl.1 cf_X9_stepOf wq735 wq734 (c_X9_stepOfW l D g T h0 s_65 hW.2.1 x10 rx10) ⟨rfl, rfl, ⟨by decide, by decide⟩, ⟨by decide, by decide⟩⟩ rfl rfl (Nat.le_of_ble_eq_true rfl) dX9_readStep_173) hW (fun x13 s14 H locs rx13 hp15 hW => ?_)
      obtain ⟨es14, hp15⟩ := hp15
      subst es14
      have ghp15 := hp15
      have S173 := wst_i ghp15
      rw [C170] at S173
      refine lv_istore (lv' := [(5, .int (xJ x13)), (0, .ref (h0 + 126)), (1, .int (xJ q)), (2, .int (xJ x1)), (3, .int (xJ x2)), (4, .int (xJ i4_65))]) hx hb dX9_readStep_176 hl (by decide) rfl (fun ls hl => ?_)
      refine x_iload hx hb hl 0 rfl dX9_readStep_178 ?_
      refine x_iconst hx hb dX9_readStep_180 ?_
      refine x_icmp_ne (tgt := 200) hx hb rx13 (by decide) dX9_readStep_181 (by decide) (fun c16 => ?_) (fun c16 => ?_)
      · skip
        refine x_aload_n hx hb hl 1 rfl dX9_readStep_200 rfl ?_
        refine x_get (j := 0) (v := .ref (h0 + 1)) hx hb hown hT hE hW cls_X9 (Or.inl (by decide)) (so_126 h0 g _) (by decide) rfl wq307 dX9_readStep_201 ?_
        refine lv_dup hx hb dX9_readStep_204 rfl ?_
        refine x_getN (j := 3) (v := .int (xJ (s_65 1 3))) hx hb hown hT hE hW cls_X8 (Or.inl (by decide)) (so_1 h0 g _) (by decide) rfl wn202 dX9_readStep_205 ?_
        refine x_rd hW (fun x17 ex17 rx17 => ?_)
        refine x_iconst hx hb dX9_readStep_208 ?_
        refine x_iadd hx hb dX9_readStep_209 ?_
        refine x_putN (j := 3) hx hb hown hT hE hW cls_X8 (by decide) (fun σ => so_1 h0 g σ) (by decide) (st_X8_3 h0 s_65 1 (x17 + 1)) (ln_X8_3 h0 _ _) wn202 rfl rfl rfl (by omega) dX9_readStep_210 (fun H locs s18 es18 hW => ?_)
        have q19 : IC s18 := by rw [es18]; exact IC_1 q65_0 (by omega)
        have q20 : s18 1 1 = s0 1 1 := (show s18 1 1 = s_65 1 1 from by rw [es18, xU_j _ _ (by decide)]).trans q65_1
        have q21 : s18 1 2 = s0 1 2 := (show s18 1 2 = s_65 1 2 from by rw [es18, xU_j _ _ (by decide)]).trans q65_2
        have q22 : s18 126 2 = s0 126 2 := (show s18 126 2 = s_65 126 2 from by rw [es18, xU_k _ _ _ (by omega)]).trans q65_4
        have q23 : s18 1 3 = (x17 + 1) := by rw [es18, xU_s]
        have hF24 := hF_65.put es18 (by omega)
        have Q210 : s18 126 2 = s0 126 2 ∧ s18 127 = s0 127 := by rw [es18, xU_k _ _ _ (by omega), xU_k _ _ _ (by omega)]; exact v65_3
        refine x_aload_n hx hb hl 1 rfl dX9_readStep_213 rfl ?_
        refine x_get (j := 2) (v := .int (xJ (s18 126 2))) hx hb hown hT hE hW cls_X9 (Or.inl (by decide)) (so_126 h0 g _) (by decide) rfl wq309 dX9_readStep_214 ?_
        refine x_rd hW (fun x25 ex25 rx25 => ?_)
        have bx25 : 0 ≤ x25 ∧ x25 ≤ 60 := by rw [ex25]; exact IC.y q19
        have fx25 : x25 = s0 126 2 := ex25.trans q22
        refine x_bipush hx hb dX9_readStep_217 (by decide) ?_
        refine x_icmp_lt (tgt := 233) hx hb rx25 (by decide) dX9_readStep_219 (by decide) (fun c26 => ?_) (fun c26 => ?_)
        · skip
          refine x_aload_n hx hb hl 1 rfl dX9_readStep_233 rfl ?_
          refine x_get (j := 1) (v := .ref (h0 + 127)) hx hb hown hT hE hW cls_X9 (Or.inl (by decide)) (so_126 h0 g _) (by decide) rfl wq308 dX9_readStep_234 ?_
          refine x_aload_n hx hb hl 1 rfl dX9_readStep_237 rfl ?_
          refine x_get (j := 2) (v := .int (xJ (s18 126 2))) hx hb hown hT hE hW cls_X9 (Or.inl (by decide)) (so_126 h0 g _) (by decide) rfl wq309 dX9_readStep_238 ?_
          refine x_rd hW (fun x27 ex27 rx27 => ?_)
          have bx27 : 0 ≤ x27 ∧ x27 ≤ 60 := by rw [ex27]; exact IC.y q19
          have fx27 : x27 = s0 126 2 := ex27.trans q22
          refine x_iload hx hb hl 0 rfl dX9_readStep_241 ?_
          refine x_iast hx hb hE hW (by decide) (fun σ => sa_127 h0 g σ) (by omega) (by decide) rx13 dX9_readStep_243 (fun H locs s28 es28 hW => ?_)
          have q29 : IC s28 := by rw [es28]; exact IC_o (by decide) q19
          have q30 : s28 1 1 = s0 1 1 := (show s28 1 1 = s18 1 1 from by rw [es28, xU_k _ _ _ (by omega)]).trans q20
          have q31 : s28 1 2 = s0 1 2 := (show s28 1 2 = s18 1 2 from by rw [es28, xU_k _ _ _ (by omega)]).trans q21
          have q32 : s28 126 2 = s0 126 2 := (show s28 126 2 = s18 126 2 from by rw [es28, xU_k _ _ _ (by omega)]).trans q22
          have q33 : s28 1 3 = (x17 + 1) := (show s28 1 3 = s18 1 3 from by rw [es28, xU_k _ _ _ (by omega)]).trans q23
          have hF34 := hF24.put es28 (by omega)
          have A243 : s28 127 = xud (s0 127) (s0 126 2) (1 * wst (zch (s0 2) (s0 1 2) (s_65 1 3))) ∧ s28 1 3 = s_65 1 3 + 1 := ⟨by rw [es28, xU_xud, Q210.2, show x27 = s0 126 2 from by omega, Int.one_mul, ← S173], by rw [es28, xU_k _ _ _ (by omega)]; omega⟩
          refine x_aload_n hx hb hl 1 rfl dX9_readStep_244 rfl ?_
          refine lv_dup hx hb dX9_readStep_245 rfl ?_
          refine x_get (j := 2) (v := .int (xJ (s28 126 2))) hx hb hown hT hE hW cls_X9 (Or.inl (by decide)) (so_126 h0 g _) (by decide) rfl wq309 dX9_readStep_246 ?_
          refine x_rd hW (fun x35 ex35 rx35 => ?_)
          have bx35 : 0 ≤ x35 ∧ x35 ≤ 60 := by rw [ex35]; exact IC.y q29
          have fx35 : x35 = s0 126 2 := ex35.trans q32
          refine x_iconst hx hb dX9_readStep_249 ?_
          refine x_iadd hx hb dX9_readStep_250 ?_
          refine x_put (j := 2) hx hb hown hT hE hW cls_X9 (by decide) (fun σ => so_126 h0 g σ) (by decide) (st_X9_2 h0 s28 126 (x35 + 1)) (ln_X9_2 h0 _ _) wq309 rfl rfl rfl (by omega) dX9_readStep_251 (fun H locs s36 es36 hW => ?_)
          have q37 : IC s36 := by rw [es36]; exact IC_126 q29 (by omega)
          have q38 : s36 1 1 = s0 1 1 := (show s36 1 1 = s28 1 1 from by rw [es36, xU_k _ _ _ (by omega)]).trans q30
          have q39 : s36 1 2 = s0 1 2 := (show s36 1 2 = s28 1 2 from by rw [es36, xU_k _ _ _ (by omega)]).trans q31
          have q40 : s36 126 2 = (x35 + 1) := by rw [es36, xU_s]
          have q41 : s36 1 3 = (x17 + 1) := (show s36 1 3 = s28 1 3 from by rw [es36, xU_k _ _ _ (by omega)]).trans q33
          have hF42 := hF34.put es36 (by omega)
          have A251 : s36 127 = xud (s0 127) (s0 126 2) (1 * wst (zch (s0 2) (s0 1 2) (s_65 1 3))) ∧ s36 1 3 = s_65 1 3 + 1 := by rw [es36, xU_k _ _ _ (by omega), xU_k _ _ _ (by omega)]; exact A243
          have B251 : s36 126 2 = s0 126 2 + 1 := by omega
          refine x_aload_n hx hb hl 1 rfl dX9_readStep_254 rfl ?_
          refine x_iload_n hx hb hl 4 rfl dX9_readStep_255 rfl ?_
          refine x_iload hx hb hl 5 rfl dX9_readStep_256 ?_
          refine x_iconst hx hb dX9_readStep_258 ?_
          refine x_isub hx hb dX9_readStep_259 ?_
          refine x_goi (x_runV (As := [.int (xJ x2), .int (xJ (i4_65 - 1))]) hx hb hml hown hT hE hW hl.1 (Or.inl (by decide)) (so_126 h0 g _) rfl cf_X9_repeat wq732 wq31 wq730 (c_X9_repeatW l D g T h0 s36 hW.2.1 x2 rx2 (i4_65 - 1) (by omega) (by have y := IC.y q37; omega) (by omega) q37) ⟨rfl, rfl, ⟨by decide, by decide⟩, ⟨by decide, by decide⟩⟩ rfl rfl (Nat.le_of_ble_eq_true rfl) dX9_readStep_260) hW (fun x43 s44 H locs rx43 hp45 hW => ?_)
          obtain ⟨fs44, hp45⟩ := hp45
          have hF46 := hF42.call fs44 (fun k h => by omega)
          have q47 : s44 1 1 = s0 1 1 := (congrFun (fs44 _ (by omega)) _).trans q38
          have q48 : s44 1 2 = s0 1 2 := (congrFun (fs44 _ (by omega)) _).trans q39
          have q49 : s44 1 3 = (x17 + 1) := (congrFun (fs44 _ (by omega)) _).trans q41
          have ghp45 := hp45.2
          have R260 := ghp45
          rw [A251.1, B251, show x2 = s0 126 2 from by omega, show s0 126 2 + 1 - s0 126 2 = 1 from by omega, Int.mul_one] at R260
          have E260 : s44 1 3 = s_65 1 3 + 1 := (congrFun (fs44 1 (by omega)) 3).trans A251.2
          refine x_if_ne (tgt := 279) hx hb rx43 dX9_readStep_263 (by decide) (fun c50 => ?_) (fun c50 => ?_)
          · skip
            refine x_iconst hx hb dX9_readStep_279 ?_
            refine lv_goto (tgt := 284) hx hb dX9_readStep_280 (by decide) ?_
            rw [eQ]
            exact x_zret hx hb hr hlk hW (by omega) ⟨hF46, ⟨hp45.1.1, q47, q48, trivial⟩, by first | exact Or.inl ⟨by omega, hz.step (by omega) v65_1.2 v65_1.1 (by omega) (by omega) (by omega) (by omega) (by omega) (R260.resolve_right (fun q => by omega)).2.2.2, by omega, by omega, by omega⟩ | (have z := hz.six (by omega) v65_1.2 v65_1.1 (by omega) (by omega) (by omega); rw [z]; exact Or.inr ⟨by omega, (by show (-6000 - _ : Int) ≠ 0; omega), (by show _ = (-6000 - _ : Int); omega)⟩)⟩ dX9_readStep_284
          refine x_aload_n hx hb hl 1 rfl dX9_readStep_266 rfl ?_
          refine x_get (j := 0) (v := .ref (h0 + 1)) hx hb hown hT hE hW cls_X9 (Or.inl (by decide)) (so_126 h0 g _) (by decide) rfl wq307 dX9_readStep_267 ?_
          refine x_bipush hx hb dX9_readStep_270 (by decide) ?_
          refine x_iload_n hx hb hl 3 rfl dX9_readStep_272 rfl ?_
          refine x_goi (x_runVN (As := [.int (xJ 6), .int (xJ x1)]) hx hb hml hown hT hE hW hl.1 (Or.inl (by decide)) (so_1 h0 g _) rfl cf_X8_fails wq588 wq5 wn728 (c_X8_failsM l D g T h0 s44 hW.2.1 6 (by decide) x1 rx1 (by omega) hp45.1.1) ⟨rfl, rfl, ⟨by decide, by decide⟩, ⟨by decide, by decide⟩⟩ rfl rfl (Nat.le_of_ble_eq_true rfl) dX9_readStep_273) hW (fun x51 s52 H locs rx51 hp53 hW => ?_)
          obtain ⟨fs52, hp53⟩ := hp53
          have hF54 := hF46.call fs52 (fun k h => by omega)
          have ghp53 := hp53.2
          refine x_if_eq (tgt := 283) hx hb rx51 dX9_readStep_276 (by decide) (fun c55 => ?_) (fun c55 => False.elim (by omega))
          refine x_iconst hx hb dX9_readStep_283 ?_
          rw [eQ]
          exact x_zret hx hb hr hlk hW (by omega) ⟨hF54, ⟨hp53.1.1, (hp53.1.2.1.trans q47), (hp53.1.2.2.1.trans q48), trivial⟩, by first | exact Or.inl ⟨by omega, hz.step (by omega) v65_1.2 v65_1.1 (by omega) (by omega) (by omega) (by omega) (by omega) (R260.resolve_right (fun q => by omega)).2.2.2, by omega, by omega, by omega⟩ | (have z := hz.six (by omega) v65_1.2 v65_1.1 (by omega) (by omega) (by omega); rw [z]; exact Or.inr ⟨by omega, (by show (-6000 - _ : Int) ≠ 0; omega), (by show _ = (-6000 - _ : Int); omega)⟩)⟩ dX9_readStep_284
        refine x_aload_n hx hb hl 1 rfl dX9_readStep_222 rfl ?_
        refine x_get (j := 0) (v := .ref (h0 + 1)) hx hb hown hT hE hW cls_X9 (Or.inl (by decide)) (so_126 h0 g _) (by decide) rfl wq307 dX9_readStep_223 ?_
        refine x_bipush hx hb dX9_readStep_226 (by decide) ?_
        refine x_iload_n hx hb hl 3 rfl dX9_readStep_228 rfl ?_
        refine x_goi (x_runVN (As := [.int (xJ 6), .int (xJ x1)]) hx hb hml hown hT hE hW hl.1 (Or.inl (by decide)) (so_1 h0 g _) rfl cf_X8_fails wq588 wq5 wn728 (c_X8_failsM l D g T h0 s18 hW.2.1 6 (by decide) x1 rx1 (by omega) q19) ⟨rfl, rfl, ⟨by decide, by decide⟩, ⟨by decide, by decide⟩⟩ rfl rfl (Nat.le_of_ble_eq_true rfl) dX9_readStep_229) hW (fun x56 s57 H locs rx56 hp58 hW => ?_)
        obtain ⟨fs57, hp58⟩ := hp58
        have hF59 := hF24.call fs57 (fun k h => by omega)
        have q60 : s57 126 2 = s0 126 2 := (congrFun (fs57 _ (by omega)) _).trans q22
        have ghp58 := hp58.2
        rw [eQ]
        exact x_zret hx hb hr hlk hW (by omega) ⟨hF59, ⟨hp58.1.1, (hp58.1.2.1.trans q20), (hp58.1.2.2.1.trans q21), trivial⟩, by
    have z := hz.six (by omega) v65_1.2 v65_1.1 (by omega) (by omega) (by omega)
    rw [z]
    exact Or.inr ⟨by omega, (by show (-6000 - _ : Int) ≠ 0; omega), (by show _ = (-6000 - _ : Int); omega)⟩⟩ dX9_readStep_232
      refine x_aload_n hx hb hl 1 rfl dX9_readStep_184 rfl ?_
      refine x_get (j := 0) (v := .ref (h0 + 1)) hx hb hown hT hE hW cls_X9 (Or.inl (by decide)) (so_126 h0 g _) (by decide) rfl wq307 dX9_readStep_185 ?_
      refine x_iconst hx hb dX9_readStep_188 ?_
      refine x_aload_n hx hb hl 1 rfl dX9_readStep_189 rfl ?_
      refine x_get (j := 0) (v := .ref (h0 + 1)) hx hb hown hT hE hW cls_X9 (Or.inl (by decide)) (so_126 h0 g _) (by decide) rfl wq307 dX9_readStep_190 ?_
      refine x_getN (j := 3) (v := .int (xJ (s_65 1 3))) hx hb hown hT hE hW cls_X8 (Or.inl (by decide)) (so_1 h0 g _) (by decide) rfl wn202 dX9_readStep_193 ?_
      refine x_rd hW (fun x61 ex61 rx61 => ?_)
      refine x_goi (x_runVN (As := [.int (xJ 1), .int (xJ x61)]) hx hb hml hown hT hE hW hl.1 (Or.inl (by decide)) (so_1 h0 g _) rfl cf_X8_fails wq588 wq5 wn728 (c_X8_failsM l D g T h0 s_65 hW.2.1 1 (by decide) x61 rx61 (by omega) q65_0) ⟨rfl, rfl, ⟨by decide, by decide⟩, ⟨by decide, by decide⟩⟩ rfl rfl (Nat.le_of_ble_eq_true rfl) dX9_readStep_196) hW (fun x62 s63 H locs rx62 hp64 hW => ?_)
      obtain ⟨fs63, hp64⟩ := hp64
      have hF65 := hF_65.call fs63 (fun k h => by omega)
      have q66 : s63 126 2 = s0 126 2 := (congrFun (fs63 _ (by omega)) _).trans q65_4
      have ghp64 := hp64.2
      rw [eQ]
      exact x_zret hx hb hr hlk hW (by omega) ⟨hF65, ⟨hp64.1.1, (hp64.1.2.1.trans q65_1), (hp64.1.2.2.1.trans q65_2), trivial⟩, by
    have z := hz.one (by omega) v65_1.2 (by omega) (by omega)
    rw [z]
    exact Or.inr ⟨by omega, (by show (-1000 - _ : Int) ≠ 0; omega), (by show _ = (-1000 - _ : Int); omega)⟩⟩ dX9_readStep_199
    refine x_iload_n hx hb hl 1 rfl dX9_readStep_77 rfl ?_
    refine x_iconst hx hb dX9_readStep_78 ?_
    refine x_icmp_lt (tgt := 98) hx hb rq (by decide) dX9_readStep_79 (by decide) (fun c67 => False.elim (by omega)) (fun c67 => ?_)
    refine x_aload_n hx hb hl 0 rfl dX9_readStep_82 rfl ?_
    refine x_get (j := 0) (v := .ref (h0 + 1)) hx hb hown hT hE hW cls_X9 (Or.inl (by decide)) (so_126 h0 g _) (by decide) rfl wq307 dX9_readStep_83 ?_
    refine x_iconst hx hb dX9_readStep_86 ?_
    refine x_aload_n hx hb hl 0 rfl dX9_readStep_87 rfl ?_
    refine x_get (j := 0) (v := .ref (h0 + 1)) hx hb hown hT hE hW cls_X9 (Or.inl (by decide)) (so_126 h0 g _) (by decide) rfl wq307 dX9_readStep_88 ?_
    refine x_getN (j := 3) (v := .int (xJ (s_65 1 3))) hx hb hown hT hE hW cls_X8 (Or.inl (by decide)) (so_1 h0 g _) (by decide) rfl wn202 dX9_readStep_91 ?_
    refine x_rd hW (fun x68 ex68 rx68 => ?_)
    refine x_goi (x_runVN (As := [.int (xJ 5), .int (xJ x68)]) hx hb hml hown hT hE hW hl.1 (Or.inl (by decide)) (so_1 h0 g _) rfl cf_X8_fails wq588 wq5 wn728 (c_X8_failsM l D g T h0 s_65 hW.2.1 5 (by decide) x68 rx68 (by omega) q65_0) ⟨rfl, rfl, ⟨by decide, by decide⟩, ⟨by decide, by decide⟩⟩ rfl rfl (Nat.le_of_ble_eq_true rfl) dX9_readStep_94) hW (fun x69 s70 H locs rx69 hp71 hW => ?_)
    obtain ⟨fs70, hp71⟩ := hp71
    have hF72 := hF_65.call fs70 (fun k h => by omega)
    have q73 : s70 126 2 = s0 126 2 := (congrFun (fs70 _ (by omega)) _).trans q65_4
    have ghp71 := hp71.2
    rw [eQ]
    exact x_zret hx hb hr hlk hW (by omega) ⟨hF72, ⟨hp71.1.1, (hp71.1.2.1.trans q65_1), (hp71.1.2.2.1.trans q65_2), trivial⟩, by
    have z := hz.five (by omega) v65_1.2 (by omega) (by omega)
    rw [z]
    exact Or.inr ⟨by omega, (by show (-5000 - _ : Int) ≠ 0; omega), (by show _ = (-5000 - _ : Int); omega)⟩⟩ dX9_readStep_97
  refine x_icmp_lt (tgt := 65) hx hb rx3 (by decide) dX9_readStep_25 (by decide) (fun c74 => ?_) (fun c74 => ?_)
  · skip
    exact J65 1 s0 H locs ls (by decide) hF p0 k1_1 k1_2 k126_2 (by omega) (by omega) (by omega) (by first | exact ⟨rfl, rfl⟩ | (rw [es0, xU_k _ _ _ (by omega), xU_k _ _ _ (by omega)]; exact ⟨rfl, rfl⟩)) hW (lv_sub hl [3, 4, 2, 1, 0] rfl)
  refine x_aload_n hx hb hl 3 rfl dX9_readStep_28 rfl ?_
  refine x_get (j := 0) (v := .ref (h0 + 1)) hx hb hown hT hE hW cls_X9 (Or.inl (by decide)) (so_126 h0 g _) (by decide) rfl wq307 dX9_readStep_29 ?_
  refine x_goi (x_runVN (As := []) hx hb hml hown hT hE hW hl.1 (Or.inl (by decide)) (so_1 h0 g _) rfl cf_X8_sign wq581 wq4 wn727 (c_X8_sign l D g T h0 s0 hW.2.1 p0) ⟨rfl, rfl, ⟨by decide, by decide⟩, ⟨by decide, by decide⟩⟩ rfl rfl (Nat.le_of_ble_eq_true rfl) dX9_readStep_32) hW (fun x75 s76 H locs rx75 hp77 hW => ?_)
  obtain ⟨es76, hp77⟩ := hp77
  subst es76
  have ghp77 := hp77
  have C32 : x75 = zch (s0 2) (s0 1 2) (s0 1 3) := zch_i (by omega)
  refine x_bipush hx hb dX9_readStep_35 (by decide) ?_
  refine x_icmp_gt (tgt := 65) hx hb rx75 (by decide) dX9_readStep_37 (by decide) (fun c78 => ?_) (fun c78 => ?_)
  · skip
    exact J65 1 s0 H locs ls (by decide) hF p0 k1_1 k1_2 k126_2 (by omega) (by omega) (by omega) (by first | exact ⟨rfl, rfl⟩ | (rw [es0, xU_k _ _ _ (by omega), xU_k _ _ _ (by omega)]; exact ⟨rfl, rfl⟩)) hW (lv_sub hl [3, 4, 2, 1, 0] rfl)
  refine x_aload_n hx hb hl 3 rfl dX9_readStep_40 rfl ?_
  refine x_get (j := 0) (v := .ref (h0 + 1)) hx hb hown hT hE hW cls_X9 (Or.inl (by decide)) (so_126 h0 g _) (by decide) rfl wq307 dX9_readStep_41 ?_
  refine x_goi (x_runVN (As := []) hx hb hml hown hT hE hW hl.1 (Or.inl (by decide)) (so_1 h0 g _) rfl cf_X8_sign wq581 wq4 wn727 (c_X8_sign l D g T h0 s0 hW.2.1 p0) ⟨rfl, rfl, ⟨by decide, by decide⟩, ⟨by decide, by decide⟩⟩ rfl rfl (Nat.le_of_ble_eq_true rfl) dX9_readStep_44) hW (fun x79 s80 H locs rx79 hp81 hW => ?_)
  obtain ⟨es80, hp81⟩ := hp81
  subst es80
  have ghp81 := hp81
  have C44 : x79 = zch (s0 2) (s0 1 2) (s0 1 3) := zch_i (by omega)
  refine x_bipush hx hb dX9_readStep_47 (by decide) ?_
  refine x_isub hx hb dX9_readStep_49 ?_
  refine x_nm (fun x82 ex82 => ?_)
  refine lv_istore (lv' := [(4, .int (xJ x82)), (3, .int (xJ x2)), (2, .int (xJ x1)), (0, .ref (h0 + 126)), (1, .int (xJ q))]) hx hb dX9_readStep_50 hl (by decide) rfl (fun ls hl => ?_)
  refine x_aload_n hx hb hl 3 rfl dX9_readStep_52 rfl ?_
  refine x_get (j := 0) (v := .ref (h0 + 1)) hx hb hown hT hE hW cls_X9 (Or.inl (by decide)) (so_126 h0 g _) (by decide) rfl wq307 dX9_readStep_53 ?_
  refine lv_dup hx hb dX9_readStep_56 rfl ?_
  refine x_getN (j := 3) (v := .int (xJ (s0 1 3))) hx hb hown hT hE hW cls_X8 (Or.inl (by decide)) (so_1 h0 g _) (by decide) rfl wn202 dX9_readStep_57 ?_
  refine x_rd hW (fun x83 ex83 rx83 => ?_)
  have fx83 : x83 = s0 1 3 := ex83.trans k1_3
  refine x_iconst hx hb dX9_readStep_60 ?_
  refine x_iadd hx hb dX9_readStep_61 ?_
  refine x_putN (j := 3) hx hb hown hT hE hW cls_X8 (by decide) (fun σ => so_1 h0 g σ) (by decide) (st_X8_3 h0 s0 1 (x83 + 1)) (ln_X8_3 h0 _ _) wn202 rfl rfl rfl (by omega) dX9_readStep_62 (fun H locs s84 es84 hW => ?_)
  have q85 : IC s84 := by rw [es84]; exact IC_1 p0 (by omega)
  have q86 : s84 1 1 = s0 1 1 := (show s84 1 1 = s0 1 1 from by rw [es84, xU_j _ _ (by decide)]).trans k1_1
  have q87 : s84 1 2 = s0 1 2 := (show s84 1 2 = s0 1 2 from by rw [es84, xU_j _ _ (by decide)]).trans k1_2
  have q88 : s84 1 3 = (x83 + 1) := by rw [es84, xU_s]
  have q89 : s84 126 2 = s0 126 2 := (show s84 126 2 = s0 126 2 from by rw [es84, xU_k _ _ _ (by omega)]).trans k126_2
  have hF90 := hF.put es84 (by omega)
  exact J65 x82 s84 H locs ls (by omega) hF90 q85 q86 q87 q89 (by omega) (by omega) (by omega) (by first | exact ⟨rfl, rfl⟩ | (rw [es84, xU_k _ _ _ (by omega), xU_k _ _ _ (by omega)]; exact ⟨rfl, rfl⟩)) hW (lv_sub hl [3, 4, 2, 1, 0] rfl)
set_option maxHeartbeats 4000000 in
set_option maxRecDepth 100000 in
theorem c_X9_readStepsW2 (l : Launch) (D : va_G) (g : xG) (T : Nat × Nat × Nat) (h0 : Nat) (s0 : xS) (hσ : xRR s0) (q : Int) (rq : xR q) (Z : Int × Int × (Int → Int)) (st : List (Int × Int × Int)) (hq : q = 2) (hst : st.length = 2) (hat : 1 ≤ s0 1 3 ∧ s0 1 3 ≤ s0 1 2 ∧ s0 1 2 ≤ 80) (hz : zWS (s0 2) (s0 1 2) 1 Z true (s0 1 3) (s0 126 2) (s0 127) st) (p0 : IC s0) : Met l yX9_readSteps (xws yX9_readSteps cX9_readSteps 4 (some .boolean)) { frames := 2, cells := 0, slots := 0, locals := 49 } (xP [.ref (h0 + 126), .int (xJ q)] D g T h0 s0) (xQi D g h0 (fun r τ => xFr (fun k => k = 1 ∨ k = 126 ∨ k = 127) s0 τ ∧ (((IC τ) ∧ (τ 1 1 = s0 1 1) ∧ (τ 1 2 = s0 1 2) ∧ True) ∧ ((r = 1 ∧ zWS (s0 2) (s0 1 2) 1 Z false (τ 1 3) (τ 126 2) (τ 127) st ∧ s0 1 3 + 1 ≤ τ 1 3 ∧ τ 1 3 ≤ s0 1 2 ∧ s0 126 2 < τ 126 2 ∧ zch (s0 2) (s0 1 2) (τ 1 3) = 41) ∨ (r = 0 ∧ Z.1 ≠ 0 ∧ τ 1 4 = Z.1))))) 0 0 (xA h0) := by
  refine x_met hσ (by decide) (Nat.le_of_ble_eq_true rfl) ?_
  intro p e s m args below meth c hx hb hr hml hown hT hlk hnm hE hW ls hl
  have hl : lv_has ls 4 [(0, .ref (h0 + 126)), (1, .int (xJ q))] := hl
  obtain ⟨Q, eQ⟩ : ∃ Q, Q = MQ below (xQi D g h0 (fun r τ => xFr (fun k => k = 1 ∨ k = 126 ∨ k = 127) s0 τ ∧ (((IC τ) ∧ (τ 1 1 = s0 1 1) ∧ (τ 1 2 = s0 1 2) ∧ True) ∧ ((r = 1 ∧ zWS (s0 2) (s0 1 2) 1 Z false (τ 1 3) (τ 126 2) (τ 127) st ∧ s0 1 3 + 1 ≤ τ 1 3 ∧ τ 1 3 ≤ s0 1 2 ∧ s0 126 2 < τ 126 2 ∧ zch (s0 2) (s0 1 2) (τ 1 3) = 41) ∨ (r = 0 ∧ Z.1 ≠ 0 ∧ τ 1 4 = Z.1))))) args s 0 0 (xA h0) := ⟨_, rfl⟩
  rw [← eQ]
  generalize hHe : ([] : List Loc) = locs at hW ⊢
  obtain ⟨H, eH⟩ : ∃ H, H = s.heap := ⟨_, rfl⟩
  rw [← eH] at hW ⊢
  have hF : xFr (fun k => k = 1 ∨ k = 126 ∨ k = 127) s0 s0 := xFr.rf
  have k1_1 : s0 1 1 = s0 1 1 := rfl
  have k1_2 : s0 1 2 = s0 1 2 := rfl
  refine x_iload_n hx hb hl 1 rfl dX9_readSteps_0 rfl ?_
  refine x_if_ne (tgt := 8) hx hb rq dX9_readSteps_1 (by decide) (fun c1 => ?_) (fun c1 => False.elim (by omega))
  refine x_bipush hx hb dX9_readSteps_8 (by decide) ?_
  refine lv_istore_n (lv' := [(2, .int (xJ 41)), (0, .ref (h0 + 126)), (1, .int (xJ q))]) hx hb dX9_readSteps_10 rfl hl (by decide) rfl (fun ls hl => ?_)
  refine x_iconst hx hb dX9_readSteps_11 ?_
  refine lv_istore_n (lv' := [(3, .int (xJ 0)), (2, .int (xJ 41)), (0, .ref (h0 + 126)), (1, .int (xJ q))]) hx hb dX9_readSteps_12 rfl hl (by decide) rfl (fun ls hl => ?_)
  have L13 : ∀ (fu : Nat) (i3_13 : Int) (s_13 : xS) (H : Heap) (locs : List Loc) (ls : Array Slot), (xR i3_13) → (xFr (fun k => k = 1 ∨ k = 126 ∨ k = 127) s0 s_13) → (IC s_13) → (s_13 1 1 = s0 1 1) → (s_13 1 2 = s0 1 2) → (0 ≤ i3_13 ∧ i3_13 ≤ s_13 1 3 - s0 1 3 ∧ s_13 1 3 ≤ s0 1 2 ∧ s0 126 2 + i3_13 ≤ s_13 126 2) → (zWS (s0 2) (s0 1 2) 1 Z true (s_13 1 3) (s_13 126 2) (s_13 127) st) → (80 - i3_13).toNat < fu → xW D g h0 s H locs s_13 → lv_has ls 4 [(0, .ref (h0 + 126)), (1, .int (xJ q)), (2, .int (xJ 41)), (3, .int (xJ i3_13))] → W p l e { frames := 2, cells := 0, slots := 0, locals := 49 } s m args below meth c H locs 0 0 Q (F0 m 13 ls []) := by
    intro fu
    induction fu with
    | zero => intro i3_13 s_13 H locs ls ri3_13 hF_13 q13_0 q13_1 q13_2 v13_0 v13_1 hm; exact absurd hm (Nat.not_lt_zero _)
    | succ fu ih13 =>
      intro i3_13 s_13 H locs ls ri3_13 hF_13 q13_0 q13_1 q13_2 v13_0 v13_1 hm hW hl
      refine x_iload_n hx hb hl 3 rfl dX9_readSteps_13 rfl ?_
      refine x_bipush hx hb dX9_readSteps_14 (by decide) ?_
      refine x_icmp_ge (tgt := 48) hx hb ri3_13 (by decide) dX9_readSteps_16 (by decide) (fun c2 => False.elim (by omega)) (fun c2 => ?_)
      refine x_aload_n hx hb hl 0 rfl dX9_readSteps_19 rfl ?_
      refine x_iload_n hx hb hl 1 rfl dX9_readSteps_20 rfl ?_
      refine x_goi (x_runV (As := [.int (xJ q)]) hx hb hml hown hT hE hW hl.1 (Or.inl (by decide)) (so_126 h0 g _) rfl cf_X9_readStep wq725 wq30 wq723 (c_X9_readStepW2 l D g T h0 s_13 hW.2.1 q rq Z st (by omega) (hst) (by omega) (by rw [hF_13 2 (by omega), show s_13 1 2 = s0 1 2 from by omega]; exact v13_1) q13_0) ⟨rfl, rfl, ⟨by decide, by decide⟩, ⟨by decide, by decide⟩⟩ rfl rfl (Nat.le_of_ble_eq_true rfl) dX9_readSteps_21) hW (fun x3 s4 H locs rx3 hp5 hW => ?_)
      obtain ⟨fs4, hp5⟩ := hp5
      have hF6 := hF_13.call fs4 (fun k h => by omega)
      have ghp5 := hp5.2
      have H21 := ghp5
      rw [hF_13 2 (by omega), show s_13 1 2 = s0 1 2 from by omega] at H21
      have G21 : s4 2 = s0 2 := hF6 2 (by omega)
      have Y21 : s4 1 3 < s0 1 2 → 0 ≤ s4 1 3 → 0 ≤ zch (s0 2) (s0 1 2) (s4 1 3) := fun h h9 => by
        have b := (IC.by_ hp5.1.1) (s4 1 3) (by omega) (by omega)
        rw [G21] at b
        rw [← zch_i (Or.inl ⟨h, rfl⟩)]
        exact b.1
      refine x_if_ne (tgt := 29) hx hb rx3 dX9_readSteps_24 (by decide) (fun c7 => ?_) (fun c7 => ?_)
      · skip
        refine x_aload_n hx hb hl 0 rfl dX9_readSteps_29 rfl ?_
        have D21 := (H21.resolve_right (fun q => by omega)).2
        refine x_get (j := 0) (v := .ref (h0 + 1)) hx hb hown hT hE hW cls_X9 (Or.inl (by decide)) (so_126 h0 g _) (by decide) rfl wq307 dX9_readSteps_30 ?_
        refine x_goi (x_runVN (As := []) hx hb hml hown hT hE hW hl.1 (Or.inl (by decide)) (so_1 h0 g _) rfl cf_X8_sign wq581 wq4 wn727 (c_X8_sign l D g T h0 s4 hW.2.1 hp5.1.1) ⟨rfl, rfl, ⟨by decide, by decide⟩, ⟨by decide, by decide⟩⟩ rfl rfl (Nat.le_of_ble_eq_true rfl) dX9_readSteps_33) hW (fun x8 s9 H locs rx8 hp10 hW => ?_)
        obtain ⟨es9, hp10⟩ := hp10
        subst es9
        have ghp10 := hp10
        have C33 : x8 = zch (s0 2) (s0 1 2) (s4 1 3) := zch_i (by have q := congrFun (hF6 2 (by omega)) (s4 1 3); omega)
        have X33 : zch (s0 2) (s0 1 2) (s4 1 3) ≠ -1 → s4 1 3 < s0 1 2 := zch_lt
        refine x_iload_n hx hb hl 2 rfl dX9_readSteps_36 rfl ?_
        refine x_icmp_ne (tgt := 42) hx hb rx8 (by decide) dX9_readSteps_37 (by decide) (fun c11 => ?_) (fun c11 => ?_)
        · skip
          refine x_iinc (lv' := [(3, .int (xJ (i3_13 + 1))), (0, .ref (h0 + 126)), (1, .int (xJ q)), (2, .int (xJ 41))]) hx hb hl 3 rfl dX9_readSteps_42 (by decide) rfl (fun ls hl => ?_)
          refine lv_goto (tgt := 13) hx hb dX9_readSteps_45 (by decide) ?_
          exact ih13 (i3_13 + 1) s4 H locs ls (by omega) hF6 hp5.1.1 (hp5.1.2.1.trans q13_1) (hp5.1.2.2.1.trans q13_2) (by omega) (D21.1.moreN (by omega) (by omega) (by omega)) (by omega) hW (lv_sub hl [1, 2, 3, 0] rfl)
        refine x_iconst hx hb dX9_readSteps_40 ?_
        rw [eQ]
        exact x_zret hx hb hr hlk hW (by omega) ⟨hF6, ⟨hp5.1.1, (hp5.1.2.1.trans q13_1), (hp5.1.2.2.1.trans q13_2), trivial⟩, Or.inl ⟨by omega, D21.1, by omega, by omega, by omega, by omega⟩⟩ dX9_readSteps_41
      refine x_iconst hx hb dX9_readSteps_27 ?_
      rw [eQ]
      exact x_zret hx hb hr hlk hW (by omega) ⟨hF6, ⟨hp5.1.1, (hp5.1.2.1.trans q13_1), (hp5.1.2.2.1.trans q13_2), trivial⟩, H21.elim (fun q => absurd q.1 (by omega)) (fun q => Or.inr ⟨by omega, q.2⟩)⟩ dX9_readSteps_28
  exact L13 ((80 - 0 : Int).toNat + 1) 0 s0 H locs ls (by decide) hF p0 k1_1 k1_2 (by omega) (hz) (Nat.lt_succ_self _) hW (lv_sub hl [2, 3, 1, 0] rfl)
set_option maxHeartbeats 4000000 in
set_option maxRecDepth 100000 in
theorem c_X9_readStepW1 (l : Launch) (D : va_G) (g : xG) (T : Nat × Nat × Nat) (h0 : Nat) (s0 : xS) (hσ : xRR s0) (q : Int) (rq : xR q) (Z : Int × Int × (Int → Int)) (st : List (Int × Int × Int)) (hq : q = 1) (hst : st.length = 1) (hat : 0 ≤ s0 1 3 ∧ s0 1 3 ≤ s0 1 2 ∧ s0 1 2 ≤ 80) (hz : zWS (s0 2) (s0 1 2) 1 Z true (s0 1 3) (s0 126 2) (s0 127) st) (p0 : IC s0) : Met l yX9_readStep (xws yX9_readStep cX9_readStep 6 (some .boolean)) { frames := 3, cells := 0, slots := 0, locals := 72 } (xP [.ref (h0 + 126), .int (xJ q)] D g T h0 s0) (xQi D g h0 (fun r τ => xFr (fun k => k = 1 ∨ k = 126 ∨ k = 127) s0 τ ∧ (((IC τ) ∧ (τ 1 1 = s0 1 1) ∧ (τ 1 2 = s0 1 2) ∧ True) ∧ ((r = 1 ∧ zWS (s0 2) (s0 1 2) 1 Z false (τ 1 3) (τ 126 2) (τ 127) st ∧ s0 1 3 + 1 ≤ τ 1 3 ∧ τ 1 3 ≤ s0 1 2 ∧ s0 126 2 < τ 126 2) ∨ (r = 0 ∧ Z.1 ≠ 0 ∧ τ 1 4 = Z.1))))) 0 0 (xA h0) := by
  refine x_met hσ (by decide) (Nat.le_of_ble_eq_true rfl) ?_
  intro p e s m args below meth c hx hb hr hml hown hT hlk hnm hE hW ls hl
  have hl : lv_has ls 6 [(0, .ref (h0 + 126)), (1, .int (xJ q))] := hl
  obtain ⟨Q, eQ⟩ : ∃ Q, Q = MQ below (xQi D g h0 (fun r τ => xFr (fun k => k = 1 ∨ k = 126 ∨ k = 127) s0 τ ∧ (((IC τ) ∧ (τ 1 1 = s0 1 1) ∧ (τ 1 2 = s0 1 2) ∧ True) ∧ ((r = 1 ∧ zWS (s0 2) (s0 1 2) 1 Z false (τ 1 3) (τ 126 2) (τ 127) st ∧ s0 1 3 + 1 ≤ τ 1 3 ∧ τ 1 3 ≤ s0 1 2 ∧ s0 126 2 < τ 126 2) ∨ (r = 0 ∧ Z.1 ≠ 0 ∧ τ 1 4 = Z.1))))) args s 0 0 (xA h0) := ⟨_, rfl⟩
  rw [← eQ]
  generalize hHe : ([] : List Loc) = locs at hW ⊢
  obtain ⟨H, eH⟩ : ∃ H, H = s.heap := ⟨_, rfl⟩
  rw [← eH] at hW ⊢
  have hF : xFr (fun k => k = 1 ∨ k = 126 ∨ k = 127) s0 s0 := xFr.rf
  have k1_1 : s0 1 1 = s0 1 1 := rfl
  have k1_2 : s0 1 2 = s0 1 2 := rfl
  have k1_3 : s0 1 3 = s0 1 3 := rfl
  have k126_2 : s0 126 2 = s0 126 2 := rfl
  refine x_aload_n hx hb hl 0 rfl dX9_readStep_0 rfl ?_
  refine x_get (j := 0) (v := .ref (h0 + 1)) hx hb hown hT hE hW cls_X9 (Or.inl (by decide)) (so_126 h0 g _) (by decide) rfl wq307 dX9_readStep_1 ?_
  refine x_getN (j := 3) (v := .int (xJ (s0 1 3))) hx hb hown hT hE hW cls_X8 (Or.inl (by decide)) (so_1 h0 g _) (by decide) rfl wn202 dX9_readStep_4 ?_
  refine x_rd hW (fun x1 ex1 rx1 => ?_)
  have fx1 : x1 = s0 1 3 := ex1.trans k1_3
  refine lv_istore_n (lv' := [(2, .int (xJ x1)), (0, .ref (h0 + 126)), (1, .int (xJ q))]) hx hb dX9_readStep_7 rfl hl (by decide) rfl (fun ls hl => ?_)
  refine x_aload_n hx hb hl 1 rfl dX9_readStep_8 rfl ?_
  refine x_get (j := 2) (v := .int (xJ (s0 126 2))) hx hb hown hT hE hW cls_X9 (Or.inl (by decide)) (so_126 h0 g _) (by decide) rfl wq309 dX9_readStep_9 ?_
  refine x_rd hW (fun x2 ex2 rx2 => ?_)
  have bx2 : 0 ≤ x2 ∧ x2 ≤ 60 := by rw [ex2]; exact IC.y p0
  have fx2 : x2 = s0 126 2 := ex2.trans k126_2
  refine lv_istore_n (lv' := [(3, .int (xJ x2)), (2, .int (xJ x1)), (0, .ref (h0 + 126)), (1, .int (xJ q))]) hx hb dX9_readStep_12 rfl hl (by decide) rfl (fun ls hl => ?_)
  refine x_iconst hx hb dX9_readStep_13 ?_
  refine lv_istore (lv' := [(4, .int (xJ 1)), (3, .int (xJ x2)), (2, .int (xJ x1)), (0, .ref (h0 + 126)), (1, .int (xJ q))]) hx hb dX9_readStep_14 hl (by decide) rfl (fun ls hl => ?_)
  refine x_aload_n hx hb hl 3 rfl dX9_readStep_16 rfl ?_
  refine x_get (j := 0) (v := .ref (h0 + 1)) hx hb hown hT hE hW cls_X9 (Or.inl (by decide)) (so_126 h0 g _) (by decide) rfl wq307 dX9_readStep_17 ?_
  refine x_goi (x_runVN (As := []) hx hb hml hown hT hE hW hl.1 (Or.inl (by decide)) (so_1 h0 g _) rfl cf_X8_sign wq581 wq4 wn727 (c_X8_sign l D g T h0 s0 hW.2.1 p0) ⟨rfl, rfl, ⟨by decide, by decide⟩, ⟨by decide, by decide⟩⟩ rfl rfl (Nat.le_of_ble_eq_true rfl) dX9_readStep_20) hW (fun x3 s4 H locs rx3 hp5 hW => ?_)
  obtain ⟨es4, hp5⟩ := hp5
  subst es4
  have ghp5 := hp5
  have C20 : x3 = zch (s0 2) (s0 1 2) (s0 1 3) := zch_i (by omega)
  have T20 := wtm_cs (zch (s0 2) (s0 1 2) (s0 1 3))
  have P20 := wp1_cs (s0 2) (s0 1 2) (s0 1 3)
  have X20 : zch (s0 2) (s0 1 2) (s0 1 3) ≠ -1 → s0 1 3 < s0 1 2 := zch_lt
  refine x_bipush hx hb dX9_readStep_23 (by decide) ?_
  have J65 : ∀ (i4_65 : Int) (s_65 : xS) (H : Heap) (locs : List Loc) (ls : Array Slot), (xR i4_65) → (xFr (fun k => k = 1 ∨ k = 126 ∨ k = 127) s0 s_65) → (IC s_65) → (s_65 1 1 = s0 1 1) → (s_65 1 2 = s0 1 2) → (s_65 126 2 = s0 126 2) → (1 ≤ i4_65 ∧ i4_65 ≤ 9) → (i4_65 = wtm (zch (s0 2) (s0 1 2) (s0 1 3)) ∧ s_65 1 3 = wp1 (s0 2) (s0 1 2) (s0 1 3)) → (s_65 1 3 ≤ s0 1 2) → (s_65 126 2 = s0 126 2 ∧ s_65 127 = s0 127) → xW D g h0 s H locs s_65 → lv_has ls 6 [(0, .ref (h0 + 126)), (1, .int (xJ q)), (2, .int (xJ x1)), (3, .int (xJ x2)), (4, .int (xJ i4_65))] → W p l e { frames := 3, cells := 0, slots := 0, locals := 72 } s m args below meth c H locs 0 0 Q (F0 m 65 ls []) := by
    intro i4_65 s_65 H locs ls ri4_65 hF_65 q65_0 q65_1 q65_2 q65_4 v65_0 v65_1 v65_2 v65_3 hW hl
    refine x_aload_n hx hb hl 0 rfl dX9_readStep_65 rfl ?_
    refine x_get (j := 0) (v := .ref (h0 + 1)) hx hb hown hT hE hW cls_X9 (Or.inl (by decide)) (so_126 h0 g _) (by decide) rfl wq307 dX9_readStep_66 ?_
    refine x_goi (x_runVN (As := []) hx hb hml hown hT hE hW hl.1 (Or.inl (by decide)) (so_1 h0 g _) rfl cf_X8_sign wq581 wq4 wn727 (c_X8_sign l D g T h0 s_65 hW.2.1 q65_0) ⟨rfl, rfl, ⟨by decide, by decide⟩, ⟨by decide, by decide⟩⟩ rfl rfl (Nat.le_of_ble_eq_true rfl) dX9_readStep_69) hW (fun x6 s7 H locs rx6 hp8 hW => ?_)
    obtain ⟨es7, hp8⟩ := hp8
    subst es7
    have ghp8 := hp8
    have C69 : x6 = zch (s0 2) (s0 1 2) (s_65 1 3) := zch_i (by have q := congrFun (hF_65 2 (by omega)) (s_65 1 3); omega)
    have X69 : zch (s0 2) (s0 1 2) (s_65 1 3) ≠ -1 → s_65 1 3 < s0 1 2 := zch_lt
    refine x_bipush hx hb dX9_readStep_72 (by decide) ?_
    refine x_icmp_ne (tgt := 166) hx hb rx6 (by decide) dX9_readStep_74 (by decide) (fun c9 => ?_) (fun c9 => ?_)
    · skip
      refine x_aload_n hx hb hl 0 rfl dX9_readStep_166 rfl ?_
      refine x_get (j := 0) (v := .ref (h0 + 1)) hx hb hown hT hE hW cls_X9 (Or.inl (by decide)) (so_126 h0 g _) (by decide) rfl wq307 dX9_readStep_167 ?_
      refine x_goi (x_runVN (As := []) hx hb hml hown hT hE hW hl.1 (Or.inl (by decide)) (so_1 h0 g _) rfl cf_X8_sign wq581 wq4 wn727 (c_X8_sign l D g T h0 s_65 hW.2.1 q65_0) ⟨rfl, rfl, ⟨by decide, by decide⟩, ⟨by decide, by decide⟩⟩ rfl rfl (Nat.le_of_ble_eq_true rfl) dX9_readStep_170) hW (fun x10 s11 H locs rx10 hp12 hW => ?_)
      obtain ⟨es11, hp12⟩ := hp12
      subst es11
      have ghp12 := hp12
      have C170 : x10 = zch (s0 2) (s0 1 2) (s_65 1 3) := zch_i (by have q := congrFun (hF_65 2 (by omega)) (s_65 1 3); omega)
      refine x_goi (x_runS (As := [.int (xJ x10)]) hx hb hml hown hT hE hW hl.1 cf_X9_stepOf wq735 wq734 (c_X9_stepOfW l D g T h0 s_65 hW.2.1 x10 rx10) ⟨rfl, rfl, ⟨by decide, by decide⟩, ⟨by decide, by decide⟩⟩ rfl rfl (Nat.le_of_ble_eq_true rfl) dX9_readStep_173) hW (fun x13 s14 H locs rx13 hp15 hW => ?_)
      obtain ⟨es14, hp15⟩ := hp15
      subst es14
      have ghp15 := hp15
      have S173 := wst_i ghp15
      rw [C170] at S173
      refine lv_istore (lv' := [(5, .int (xJ x13)), (0, .ref (h0 + 126)), (1, .int (xJ q)), (2, .int (xJ x1)), (3, .int (xJ x2)), (4, .int (xJ i4_65))]) hx hb dX9_readStep_176 hl (by decide) rfl (fun ls hl => ?_)
      refine x_iload hx hb hl 0 rfl dX9_readStep_178 ?_
      refine x_iconst hx hb dX9_readStep_180 ?_
      refine x_icmp_ne (tgt := 200) hx hb rx13 (by decide) dX9_readStep_181 (by decide) (fun c16 => ?_) (fun c16 => ?_)
      · skip
        refine x_aload_n hx hb hl 1 rfl dX9_readStep_200 rfl ?_
        refine x_get (j := 0) (v := .ref (h0 + 1)) hx hb hown hT hE hW cls_X9 (Or.inl (by decide)) (so_126 h0 g _) (by decide) rfl wq307 dX9_readStep_201 ?_
        refine lv_dup hx hb dX9_readStep_204 rfl ?_
        refine x_getN (j := 3) (v := .int (xJ (s_65 1 3))) hx hb hown hT hE hW cls_X8 (Or.inl (by decide)) (so_1 h0 g _) (by decide) rfl wn202 dX9_readStep_205 ?_
        refine x_rd hW (fun x17 ex17 rx17 => ?_)
        refine x_iconst hx hb dX9_readStep_208 ?_
        refine x_iadd hx hb dX9_readStep_209 ?_
        refine x_putN (j := 3) hx hb hown hT hE hW cls_X8 (by decide) (fun σ => so_1 h0 g σ) (by decide) (st_X8_3 h0 s_65 1 (x17 + 1)) (ln_X8_3 h0 _ _) wn202 rfl rfl rfl (by omega) dX9_readStep_210 (fun H locs s18 es18 hW => ?_)
        have q19 : IC s18 := by rw [es18]; exact IC_1 q65_0 (by omega)
        have q20 : s18 1 1 = s0 1 1 := (show s18 1 1 = s_65 1 1 from by rw [es18, xU_j _ _ (by decide)]).trans q65_1
        have q21 : s18 1 2 = s0 1 2 := (show s18 1 2 = s_65 1 2 from by rw [es18, xU_j _ _ (by decide)]).trans q65_2
        have q22 : s18 126 2 = s0 126 2 := (show s18 126 2 = s_65 126 2 from by rw [es18, xU_k _ _ _ (by omega)]).trans q65_4
        have q23 : s18 1 3 = (x17 + 1) := by rw [es18, xU_s]
        have hF24 := hF_65.put es18 (by omega)
        have Q210 : s18 126 2 = s0 126 2 ∧ s18 127 = s0 127 := by rw [es18, xU_k _ _ _ (by omega), xU_k _ _ _ (by omega)]; exact v65_3
        refine x_aload_n hx hb hl 1 rfl dX9_readStep_213 rfl ?_
        refine x_get (j := 2) (v := .int (xJ (s18 126 2))) hx hb hown hT hE hW cls_X9 (Or.inl (by decide)) (so_126 h0 g _) (by decide) rfl wq309 dX9_readStep_214 ?_
        refine x_rd hW (fun x25 ex25 rx25 => ?_)
        have bx25 : 0 ≤ x25 ∧ x25 ≤ 60 := by rw [ex25]; exact IC.y q19
        have fx25 : x25 = s0 126 2 := ex25.trans q22
        refine x_bipush hx hb dX9_readStep_217 (by decide) ?_
        refine x_icmp_lt (tgt := 233) hx hb rx25 (by decide) dX9_readStep_219 (by decide) (fun c26 => ?_) (fun c26 => ?_)
        · skip
          refine x_aload_n hx hb hl 1 rfl dX9_readStep_233 rfl ?_
          refine x_get (j := 1) (v := .ref (h0 + 127)) hx hb hown hT hE hW cls_X9 (Or.inl (by decide)) (so_126 h0 g _) (by decide) rfl wq308 dX9_readStep_234 ?_
          refine x_aload_n hx hb hl 1 rfl dX9_readStep_237 rfl ?_
          refine x_get (j := 2) (v := .int (xJ (s18 126 2))) hx hb hown hT hE hW cls_X9 (Or.inl (by decide)) (so_126 h0 g _) (by decide) rfl wq309 dX9_readStep_238 ?_
          refine x_rd hW (fun x27 ex27 rx27 => ?_)
          have bx27 : 0 ≤ x27 ∧ x27 ≤ 60 := by rw [ex27]; exact IC.y q19
          have fx27 : x27 = s0 126 2 := ex27.trans q22
          refine x_iload hx hb hl 0 rfl dX9_readStep_241 ?_
          refine x_iast hx hb hE hW (by decide) (fun σ => sa_127 h0 g σ) (by omega) (by decide) rx13 dX9_readStep_243 (fun H locs s28 es28 hW => ?_)
          have q29 : IC s28 := by rw [es28]; exact IC_o (by decide) q19
          have q30 : s28 1 1 = s0 1 1 := (show s28 1 1 = s18 1 1 from by rw [es28, xU_k _ _ _ (by omega)]).trans q20
          have q31 : s28 1 2 = s0 1 2 := (show s28 1 2 = s18 1 2 from by rw [es28, xU_k _ _ _ (by omega)]).trans q21
          have q32 : s28 126 2 = s0 126 2 := (show s28 126 2 = s18 126 2 from by rw [es28, xU_k _ _ _ (by omega)]).trans q22
          have q33 : s28 1 3 = (x17 + 1) := (show s28 1 3 = s18 1 3 from by rw [es28, xU_k _ _ _ (by omega)]).trans q23
          have hF34 := hF24.put es28 (by omega)
          have A243 : s28 127 = xud (s0 127) (s0 126 2) (1 * wst (zch (s0 2) (s0 1 2) (s_65 1 3))) ∧ s28 1 3 = s_65 1 3 + 1 := ⟨by rw [es28, xU_xud, Q210.2, show x27 = s0 126 2 from by omega, Int.one_mul, ← S173], by rw [es28, xU_k _ _ _ (by omega)]; omega⟩
          refine x_aload_n hx hb hl 1 rfl dX9_readStep_244 rfl ?_
          refine lv_dup hx hb dX9_readStep_245 rfl ?_
          refine x_get (j := 2) (v := .int (xJ (s28 126 2))) hx hb hown hT hE hW cls_X9 (Or.inl (by decide)) (so_126 h0 g _) (by decide) rfl wq309 dX9_readStep_246 ?_
          refine x_rd hW (fun x35 ex35 rx35 => ?_)
          have bx35 : 0 ≤ x35 ∧ x35 ≤ 60 := by rw [ex35]; exact IC.y q29
          have fx35 : x35 = s0 126 2 := ex35.trans q32
          refine x_iconst hx hb dX9_readStep_249 ?_
          refine x_iadd hx hb dX9_readStep_250 ?_
          refine x_put (j := 2) hx hb hown hT hE hW cls_X9 (by decide) (fun σ => so_126 h0 g σ) (by decide) (st_X9_2 h0 s28 126 (x35 + 1)) (ln_X9_2 h0 _ _) wq309 rfl rfl rfl (by omega) dX9_readStep_251 (fun H locs s36 es36 hW => ?_)
          have q37 : IC s36 := by rw [es36]; exact IC_126 q29 (by omega)
          have q38 : s36 1 1 = s0 1 1 := (show s36 1 1 = s28 1 1 from by rw [es36, xU_k _ _ _ (by omega)]).trans q30
          have q39 : s36 1 2 = s0 1 2 := (show s36 1 2 = s28 1 2 from by rw [es36, xU_k _ _ _ (by omega)]).trans q31
          have q40 : s36 126 2 = (x35 + 1) := by rw [es36, xU_s]
          have q41 : s36 1 3 = (x17 + 1) := (show s36 1 3 = s28 1 3 from by rw [es36, xU_k _ _ _ (by omega)]).trans q33
          have hF42 := hF34.put es36 (by omega)
          have A251 : s36 127 = xud (s0 127) (s0 126 2) (1 * wst (zch (s0 2) (s0 1 2) (s_65 1 3))) ∧ s36 1 3 = s_65 1 3 + 1 := by rw [es36, xU_k _ _ _ (by omega), xU_k _ _ _ (by omega)]; exact A243
          have B251 : s36 126 2 = s0 126 2 + 1 := by omega
          refine x_aload_n hx hb hl 1 rfl dX9_readStep_254 rfl ?_
          refine x_iload_n hx hb hl 4 rfl dX9_readStep_255 rfl ?_
          refine x_iload hx hb hl 5 rfl dX9_readStep_256 ?_
          refine x_iconst hx hb dX9_readStep_258 ?_
          refine x_isub hx hb dX9_readStep_259 ?_
          refine x_goi (x_runV (As := [.int (xJ x2), .int (xJ (i4_65 - 1))]) hx hb hml hown hT hE hW hl.1 (Or.inl (by decide)) (so_126 h0 g _) rfl cf_X9_repeat wq732 wq31 wq730 (c_X9_repeatW l D g T h0 s36 hW.2.1 x2 rx2 (i4_65 - 1) (by omega) (by have y := IC.y q37; omega) (by omega) q37) ⟨rfl, rfl, ⟨by decide, by decide⟩, ⟨by decide, by decide⟩⟩ rfl rfl (Nat.le_of_ble_eq_true rfl) dX9_readStep_260) hW (fun x43 s44 H locs rx43 hp45 hW => ?_)
          obtain ⟨fs44, hp45⟩ := hp45
          have hF46 := hF42.call fs44 (fun k h => by omega)
          have q47 : s44 1 1 = s0 1 1 := (congrFun (fs44 _ (by omega)) _).trans q38
          have q48 : s44 1 2 = s0 1 2 := (congrFun (fs44 _ (by omega)) _).trans q39
          have q49 : s44 1 3 = (x17 + 1) := (congrFun (fs44 _ (by omega)) _).trans q41
          have ghp45 := hp45.2
          have R260 := ghp45
          rw [A251.1, B251, show x2 = s0 126 2 from by omega, show s0 126 2 + 1 - s0 126 2 = 1 from by omega, Int.mul_one] at R260
          have E260 : s44 1 3 = s_65 1 3 + 1 := (congrFun (fs44 1 (by omega)) 3).trans A251.2
          refine x_if_ne (tgt := 279) hx hb rx43 dX9_readStep_263 (by decide) (fun c50 => ?_) (fun c50 => ?_)
          · skip
            refine x_iconst hx hb dX9_readStep_279 ?_
            refine lv_goto (tgt := 284) hx hb dX9_readStep_280 (by decide) ?_
            rw [eQ]
            exact x_zret hx hb hr hlk hW (by omega) ⟨hF46, ⟨hp45.1.1, q47, q48, trivial⟩, by first | exact Or.inl ⟨by omega, hz.step (by omega) v65_1.2 v65_1.1 (by omega) (by omega) (by omega) (by omega) (by omega) (R260.resolve_right (fun q => by omega)).2.2.2, by omega, by omega, by omega⟩ | (have z := hz.six (by omega) v65_1.2 v65_1.1 (by omega) (by omega) (by omega); rw [z]; exact Or.inr ⟨by omega, (by show (-6000 - _ : Int) ≠ 0; omega), (by show _ = (-6000 - _ : Int); omega)⟩)⟩ dX9_readStep_284
          refine x_aload_n hx hb hl 1 rfl dX9_readStep_266 rfl ?_
          refine x_get (j := 0) (v := .ref (h0 + 1)) hx hb hown hT hE hW cls_X9 (Or.inl (by decide)) (so_126 h0 g _) (by decide) rfl wq307 dX9_readStep_267 ?_
          refine x_bipush hx hb dX9_readStep_270 (by decide) ?_
          refine x_iload_n hx hb hl 3 rfl dX9_readStep_272 rfl ?_
          refine x_goi (x_runVN (As := [.int (xJ 6), .int (xJ x1)]) hx hb hml hown hT hE hW hl.1 (Or.inl (by decide)) (so_1 h0 g _) rfl cf_X8_fails wq588 wq5 wn728 (c_X8_failsM l D g T h0 s44 hW.2.1 6 (by decide) x1 rx1 (by omega) hp45.1.1) ⟨rfl, rfl, ⟨by decide, by decide⟩, ⟨by decide, by decide⟩⟩ rfl rfl (Nat.le_of_ble_eq_true rfl) dX9_readStep_273) hW (fun x51 s52 H locs rx51 hp53 hW => ?_)
          obtain ⟨fs52, hp53⟩ := hp53
          have hF54 := hF46.call fs52 (fun k h => by omega)
          have ghp53 := hp53.2
          refine x_if_eq (tgt := 283) hx hb rx51 dX9_readStep_276 (by decide) (fun c55 => ?_) (fun c55 => False.elim (by omega))
          refine x_iconst hx hb dX9_readStep_283 ?_
          rw [eQ]
          exact x_zret hx hb hr hlk hW (by omega) ⟨hF54, ⟨hp53.1.1, (hp53.1.2.1.trans q47), (hp53.1.2.2.1.trans q48), trivial⟩, by first | exact Or.inl ⟨by omega, hz.step (by omega) v65_1.2 v65_1.1 (by omega) (by omega) (by omega) (by omega) (by omega) (R260.resolve_right (fun q => by omega)).2.2.2, by omega, by omega, by omega⟩ | (have z := hz.six (by omega) v65_1.2 v65_1.1 (by omega) (by omega) (by omega); rw [z]; exact Or.inr ⟨by omega, (by show (-6000 - _ : Int) ≠ 0; omega), (by show _ = (-6000 - _ : Int); omega)⟩)⟩ dX9_readStep_284
        refine x_aload_n hx hb hl 1 rfl dX9_readStep_222 rfl ?_
        refine x_get (j := 0) (v := .ref (h0 + 1)) hx hb hown hT hE hW cls_X9 (Or.inl (by decide)) (so_126 h0 g _) (by decide) rfl wq307 dX9_readStep_223 ?_
        refine x_bipush hx hb dX9_readStep_226 (by decide) ?_
        refine x_iload_n hx hb hl 3 rfl dX9_readStep_228 rfl ?_
        refine x_goi (x_runVN (As := [.int (xJ 6), .int (xJ x1)]) hx hb hml hown hT hE hW hl.1 (Or.inl (by decide)) (so_1 h0 g _) rfl cf_X8_fails wq588 wq5 wn728 (c_X8_failsM l D g T h0 s18 hW.2.1 6 (by decide) x1 rx1 (by omega) q19) ⟨rfl, rfl, ⟨by decide, by decide⟩, ⟨by decide, by decide⟩⟩ rfl rfl (Nat.le_of_ble_eq_true rfl) dX9_readStep_229) hW (fun x56 s57 H locs rx56 hp58 hW => ?_)
        obtain ⟨fs57, hp58⟩ := hp58
        have hF59 := hF24.call fs57 (fun k h => by omega)
        have q60 : s57 126 2 = s0 126 2 := (congrFun (fs57 _ (by omega)) _).trans q22
        have ghp58 := hp58.2
        rw [eQ]
        exact x_zret hx hb hr hlk hW (by omega) ⟨hF59, ⟨hp58.1.1, (hp58.1.2.1.trans q20), (hp58.1.2.2.1.trans q21), trivial⟩, by
    have z := hz.six (by omega) v65_1.2 v65_1.1 (by omega) (by omega) (by omega)
    rw [z]
    exact Or.inr ⟨by omega, (by show (-6000 - _ : Int) ≠ 0; omega), (by show _ = (-6000 - _ : Int); omega)⟩⟩ dX9_readStep_232
      refine x_aload_n hx hb hl 1 rfl dX9_readStep_184 rfl ?_
      refine x_get (j := 0) (v := .ref (h0 + 1)) hx hb hown hT hE hW cls_X9 (Or.inl (by decide)) (so_126 h0 g _) (by decide) rfl wq307 dX9_readStep_185 ?_
      refine x_iconst hx hb dX9_readStep_188 ?_
      refine x_aload_n hx hb hl 1 rfl dX9_readStep_189 rfl ?_
      refine x_get (j := 0) (v := .ref (h0 + 1)) hx hb hown hT hE hW cls_X9 (Or.inl (by decide)) (so_126 h0 g _) (by decide) rfl wq307 dX9_readStep_190 ?_
      refine x_getN (j := 3) (v := .int (xJ (s_65 1 3))) hx hb hown hT hE hW cls_X8 (Or.inl (by decide)) (so_1 h0 g _) (by decide) rfl wn202 dX9_readStep_193 ?_
      refine x_rd hW (fun x61 ex61 rx61 => ?_)
      refine x_goi (x_runVN (As := [.int (xJ 1), .int (xJ x61)]) hx hb hml hown hT hE hW hl.1 (Or.inl (by decide)) (so_1 h0 g _) rfl cf_X8_fails wq588 wq5 wn728 (c_X8_failsM l D g T h0 s_65 hW.2.1 1 (by decide) x61 rx61 (by omega) q65_0) ⟨rfl, rfl, ⟨by decide, by decide⟩, ⟨by decide, by decide⟩⟩ rfl rfl (Nat.le_of_ble_eq_true rfl) dX9_readStep_196) hW (fun x62 s63 H locs rx62 hp64 hW => ?_)
      obtain ⟨fs63, hp64⟩ := hp64
      have hF65 := hF_65.call fs63 (fun k h => by omega)
      have q66 : s63 126 2 = s0 126 2 := (congrFun (fs63 _ (by omega)) _).trans q65_4
      have ghp64 := hp64.2
      rw [eQ]
      exact x_zret hx hb hr hlk hW (by omega) ⟨hF65, ⟨hp64.1.1, (hp64.1.2.1.trans q65_1), (hp64.1.2.2.1.trans q65_2), trivial⟩, by
    have z := hz.one (by omega) v65_1.2 (by omega) (by omega)
    rw [z]
    exact Or.inr ⟨by omega, (by show (-1000 - _ : Int) ≠ 0; omega), (by show _ = (-1000 - _ : Int); omega)⟩⟩ dX9_readStep_199
    refine x_iload_n hx hb hl 1 rfl dX9_readStep_77 rfl ?_
    refine x_iconst hx hb dX9_readStep_78 ?_
    refine x_icmp_lt (tgt := 98) hx hb rq (by decide) dX9_readStep_79 (by decide) (fun c67 => ?_) (fun c67 => False.elim (by omega))
    refine x_aload_n hx hb hl 0 rfl dX9_readStep_98 rfl ?_
    refine x_get (j := 0) (v := .ref (h0 + 1)) hx hb hown hT hE hW cls_X9 (Or.inl (by decide)) (so_126 h0 g _) (by decide) rfl wq307 dX9_readStep_99 ?_
    refine lv_dup hx hb dX9_readStep_102 rfl ?_
    refine x_getN (j := 3) (v := .int (xJ (s_65 1 3))) hx hb hown hT hE hW cls_X8 (Or.inl (by decide)) (so_1 h0 g _) (by decide) rfl wn202 dX9_readStep_103 ?_
    refine x_rd hW (fun x68 ex68 rx68 => ?_)
    refine x_iconst hx hb dX9_readStep_106 ?_
    refine x_iadd hx hb dX9_readStep_107 ?_
    refine x_putN (j := 3) hx hb hown hT hE hW cls_X8 (by decide) (fun σ => so_1 h0 g σ) (by decide) (st_X8_3 h0 s_65 1 (x68 + 1)) (ln_X8_3 h0 _ _) wn202 rfl rfl rfl (by omega) dX9_readStep_108 (fun H locs s69 es69 hW => ?_)
    have q70 : IC s69 := by rw [es69]; exact IC_1 q65_0 (by omega)
    have q71 : s69 1 1 = s0 1 1 := (show s69 1 1 = s_65 1 1 from by rw [es69, xU_j _ _ (by decide)]).trans q65_1
    have q72 : s69 1 2 = s0 1 2 := (show s69 1 2 = s_65 1 2 from by rw [es69, xU_j _ _ (by decide)]).trans q65_2
    have q73 : s69 126 2 = s0 126 2 := (show s69 126 2 = s_65 126 2 from by rw [es69, xU_k _ _ _ (by omega)]).trans q65_4
    have q74 : s69 1 3 = (x68 + 1) := by rw [es69, xU_s]
    have hF75 := hF_65.put es69 (by omega)
    have Q108 : s69 126 2 = s0 126 2 ∧ s69 127 = s0 127 := by rw [es69, xU_k _ _ _ (by omega), xU_k _ _ _ (by omega)]; exact v65_3
    have G108 : s69 2 = s0 2 := hF75 2 (by omega)
    have N108 : s69 1 2 = s0 1 2 := q72
    have O108 : zWS (s69 2) (s69 1 2) 1 Z true (s69 1 3) (s69 126 2) (s69 127) ((s0 1 3, s0 126 2, i4_65) :: st) := by
      rw [G108, N108, Q108.1, Q108.2]
      exact hz.open_ (by omega) v65_1.2 v65_1.1 (by omega) (by omega) (by omega)
    refine x_aload_n hx hb hl 0 rfl dX9_readStep_111 rfl ?_
    refine x_iload_n hx hb hl 1 rfl dX9_readStep_112 rfl ?_
    refine x_iconst hx hb dX9_readStep_113 ?_
    refine x_iadd hx hb dX9_readStep_114 ?_
    refine x_goi (x_runV (As := [.int (xJ (q + 1))]) hx hb hml hown hT hE hW hl.1 (Or.inl (by decide)) (so_126 h0 g _) rfl cf_X9_readSteps wq721 wq29 wq719 (c_X9_readStepsW2 l D g T h0 s69 hW.2.1 (q + 1) (by omega) Z ((s0 1 3, s0 126 2, i4_65) :: st) (by omega) (by show st.length + 1 = _; omega) (by omega) (O108) q70) ⟨rfl, rfl, ⟨by decide, by decide⟩, ⟨by decide, by decide⟩⟩ rfl rfl (Nat.le_of_ble_eq_true rfl) dX9_readStep_115) hW (fun x76 s77 H locs rx76 hp78 hW => ?_)
    obtain ⟨fs77, hp78⟩ := hp78
    have hF79 := hF75.call fs77 (fun k h => by omega)
    have ghp78 := hp78.2
    have H115 := ghp78
    rw [G108, N108] at H115
    obtain ⟨z9, ez9⟩ : ∃ z : Int, z = s77 126 2 := ⟨_, rfl⟩
    obtain ⟨K9, eK9⟩ : ∃ K, K = s77 127 := ⟨_, rfl⟩
    obtain ⟨p9, ep9⟩ : ∃ p : Int, p = s77 1 3 := ⟨_, rfl⟩
    rw [← ez9, ← eK9, ← ep9] at H115
    have X115 : zch (s0 2) (s0 1 2) p9 ≠ -1 → p9 < s0 1 2 := zch_lt
    have G115 : s77 2 = s0 2 := hF79 2 (by omega)
    have N115 : s77 1 2 = s0 1 2 := (hp78.1.2.2.1.trans q72)
    refine x_if_eq (tgt := 133) hx hb rx76 dX9_readStep_118 (by decide) (fun c80 => ?_) (fun c80 => ?_)
    · skip
      refine x_iconst hx hb dX9_readStep_133 ?_
      rw [eQ]
      exact x_zret hx hb hr hlk hW (by omega) ⟨hF79, ⟨hp78.1.1, (hp78.1.2.1.trans q71), (hp78.1.2.2.1.trans q72), trivial⟩, Or.inr ⟨by omega, (H115.resolve_left (fun q => by omega)).2.1, by omega⟩⟩ dX9_readStep_134
    refine x_aload_n hx hb hl 0 rfl dX9_readStep_121 rfl ?_
    refine x_get (j := 0) (v := .ref (h0 + 1)) hx hb hown hT hE hW cls_X9 (Or.inl (by decide)) (so_126 h0 g _) (by decide) rfl wq307 dX9_readStep_122 ?_
    refine x_bipush hx hb dX9_readStep_125 (by decide) ?_
    refine x_goi (x_runVN (As := [.int (xJ 41)]) hx hb hml hown hT hE hW hl.1 (Or.inl (by decide)) (so_1 h0 g _) rfl cf_X8_passes wq598 wq6 wn729 (c_X8_passesM l D g T h0 s77 hW.2.1 41 (by decide) (by omega) (by omega) hp78.1.1) ⟨rfl, rfl, ⟨by decide, by decide⟩, ⟨by decide, by decide⟩⟩ rfl rfl (Nat.le_of_ble_eq_true rfl) dX9_readStep_127) hW (fun x81 s82 H locs rx81 hp83 hW => ?_)
    obtain ⟨fs82, hp83⟩ := hp83
    have hF84 := hF79.call fs82 (fun k h => by omega)
    have ghp83 := hp83.2
    have P127 := ghp83
    rw [G115, N115, ← ep9] at P127
    have Q127 : s82 126 2 = z9 ∧ s82 127 = K9 := by rw [fs82 126 (by omega), fs82 127 (by omega)]; exact ⟨ez9.symm, eK9.symm⟩
    have E127 : s82 1 3 = p9 + 1 := by omega
    refine x_if_ne (tgt := 135) hx hb rx81 dX9_readStep_130 (by decide) (fun c85 => ?_) (fun c85 => False.elim (by omega))
    refine x_aload_n hx hb hl 0 rfl dX9_readStep_135 rfl ?_
    refine x_iload_n hx hb hl 3 rfl dX9_readStep_136 rfl ?_
    refine x_iload hx hb hl 4 rfl dX9_readStep_137 ?_
    refine x_iconst hx hb dX9_readStep_139 ?_
    refine x_isub hx hb dX9_readStep_140 ?_
    refine x_goi (x_runV (As := [.int (xJ x2), .int (xJ (i4_65 - 1))]) hx hb hml hown hT hE hW hl.1 (Or.inl (by decide)) (so_126 h0 g _) rfl cf_X9_repeat wq732 wq31 wq730 (c_X9_repeatW l D g T h0 s82 hW.2.1 x2 rx2 (i4_65 - 1) (by omega) (by have y := IC.y hp83.1.1; omega) (by omega) hp83.1.1) ⟨rfl, rfl, ⟨by decide, by decide⟩, ⟨by decide, by decide⟩⟩ rfl rfl (Nat.le_of_ble_eq_true rfl) dX9_readStep_141) hW (fun x86 s87 H locs rx86 hp88 hW => ?_)
    obtain ⟨fs87, hp88⟩ := hp88
    have hF89 := hF84.call fs87 (fun k h => by omega)
    have q90 : s87 1 1 = s0 1 1 := (congrFun (fs87 _ (by omega)) _).trans (hp83.1.2.1.trans (hp78.1.2.1.trans q71))
    have q91 : s87 1 2 = s0 1 2 := (congrFun (fs87 _ (by omega)) _).trans (hp83.1.2.2.1.trans (hp78.1.2.2.1.trans q72))
    have ghp88 := hp88.2
    have R141 := ghp88
    rw [Q127.1, Q127.2, show x2 = s0 126 2 from by omega] at R141
    have E141 : s87 1 3 = p9 + 1 := (congrFun (fs87 1 (by omega)) 3).trans E127
    have V141 := (H115.resolve_right (fun q => by omega)).2
    have m141 : 0 ≤ (i4_65 - 1) * (z9 - s0 126 2) := Int.mul_nonneg (by omega) (by omega)
    refine x_if_ne (tgt := 160) hx hb rx86 dX9_readStep_144 (by decide) (fun c92 => ?_) (fun c92 => ?_)
    · skip
      refine x_iconst hx hb dX9_readStep_160 ?_
      refine lv_goto (tgt := 165) hx hb dX9_readStep_161 (by decide) ?_
      rw [eQ]
      exact x_zret hx hb hr hlk hW (by omega) ⟨hF89, ⟨hp88.1.1, q90, q91, trivial⟩, by first | (have z := V141.1.pop6 (by omega) (by omega) (by omega); rw [z]; exact Or.inr ⟨by omega, (by show (-6000 - _ : Int) ≠ 0; omega), (by show _ = (-6000 - _ : Int); omega)⟩) | exact Or.inl ⟨by omega, V141.1.pop (by omega) (by omega) (by omega) (by omega) (by omega) (R141.resolve_right (fun q => by omega)).2.2.2, by omega, by omega, by omega⟩⟩ dX9_readStep_165
    refine x_aload_n hx hb hl 0 rfl dX9_readStep_147 rfl ?_
    refine x_get (j := 0) (v := .ref (h0 + 1)) hx hb hown hT hE hW cls_X9 (Or.inl (by decide)) (so_126 h0 g _) (by decide) rfl wq307 dX9_readStep_148 ?_
    refine x_bipush hx hb dX9_readStep_151 (by decide) ?_
    refine x_iload_n hx hb hl 2 rfl dX9_readStep_153 rfl ?_
    refine x_goi (x_runVN (As := [.int (xJ 6), .int (xJ x1)]) hx hb hml hown hT hE hW hl.1 (Or.inl (by decide)) (so_1 h0 g _) rfl cf_X8_fails wq588 wq5 wn728 (c_X8_failsM l D g T h0 s87 hW.2.1 6 (by decide) x1 rx1 (by omega) hp88.1.1) ⟨rfl, rfl, ⟨by decide, by decide⟩, ⟨by decide, by decide⟩⟩ rfl rfl (Nat.le_of_ble_eq_true rfl) dX9_readStep_154) hW (fun x93 s94 H locs rx93 hp95 hW => ?_)
    obtain ⟨fs94, hp95⟩ := hp95
    have hF96 := hF89.call fs94 (fun k h => by omega)
    have ghp95 := hp95.2
    refine x_if_eq (tgt := 164) hx hb rx93 dX9_readStep_157 (by decide) (fun c97 => ?_) (fun c97 => False.elim (by omega))
    refine x_iconst hx hb dX9_readStep_164 ?_
    rw [eQ]
    exact x_zret hx hb hr hlk hW (by omega) ⟨hF96, ⟨hp95.1.1, (hp95.1.2.1.trans q90), (hp95.1.2.2.1.trans q91), trivial⟩, by first | (have z := V141.1.pop6 (by omega) (by omega) (by omega); rw [z]; exact Or.inr ⟨by omega, (by show (-6000 - _ : Int) ≠ 0; omega), (by show _ = (-6000 - _ : Int); omega)⟩) | exact Or.inl ⟨by omega, V141.1.pop (by omega) (by omega) (by omega) (by omega) (by omega) (R141.resolve_right (fun q => by omega)).2.2.2, by omega, by omega, by omega⟩⟩ dX9_readStep_165
  refine x_icmp_lt (tgt := 65) hx hb rx3 (by decide) dX9_readStep_25 (by decide) (fun c98 => ?_) (fun c98 => ?_)
  · skip
    exact J65 1 s0 H locs ls (by decide) hF p0 k1_1 k1_2 k126_2 (by omega) (by omega) (by omega) (by first | exact ⟨rfl, rfl⟩ | (rw [es0, xU_k _ _ _ (by omega), xU_k _ _ _ (by omega)]; exact ⟨rfl, rfl⟩)) hW (lv_sub hl [3, 4, 2, 1, 0] rfl)
  refine x_aload_n hx hb hl 3 rfl dX9_readStep_28 rfl ?_
  refine x_get (j := 0) (v := .ref (h0 + 1)) hx hb hown hT hE hW cls_X9 (Or.inl (by decide)) (so_126 h0 g _) (by decide) rfl wq307 dX9_readStep_29 ?_
  refine x_goi (x_runVN (As := []) hx hb hml hown hT hE hW hl.1 (Or.inl (by decide)) (so_1 h0 g _) rfl cf_X8_sign wq581 wq4 wn727 (c_X8_sign l D g T h0 s0 hW.2.1 p0) ⟨rfl, rfl, ⟨by decide, by decide⟩, ⟨by decide, by decide⟩⟩ rfl rfl (Nat.le_of_ble_eq_true rfl) dX9_readStep_32) hW (fun x99 s100 H locs rx99 hp101 hW => ?_)
  obtain ⟨es100, hp101⟩ := hp101
  subst es100
  have ghp101 := hp101
  have C32 : x99 = zch (s0 2) (s0 1 2) (s0 1 3) := zch_i (by omega)
  refine x_bipush hx hb dX9_readStep_35 (by decide) ?_
  refine x_icmp_gt (tgt := 65) hx hb rx99 (by decide) dX9_readStep_37 (by decide) (fun c102 => ?_) (fun c102 => ?_)
  · skip
    exact J65 1 s0 H locs ls (by decide) hF p0 k1_1 k1_2 k126_2 (by omega) (by omega) (by omega) (by first | exact ⟨rfl, rfl⟩ | (rw [es0, xU_k _ _ _ (by omega), xU_k _ _ _ (by omega)]; exact ⟨rfl, rfl⟩)) hW (lv_sub hl [3, 4, 2, 1, 0] rfl)
  refine x_aload_n hx hb hl 3 rfl dX9_readStep_40 rfl ?_
  refine x_get (j := 0) (v := .ref (h0 + 1)) hx hb hown hT hE hW cls_X9 (Or.inl (by decide)) (so_126 h0 g _) (by decide) rfl wq307 dX9_readStep_41 ?_
  refine x_goi (x_runVN (As := []) hx hb hml hown hT hE hW hl.1 (Or.inl (by decide)) (so_1 h0 g _) rfl cf_X8_sign wq581 wq4 wn727 (c_X8_sign l D g T h0 s0 hW.2.1 p0) ⟨rfl, rfl, ⟨by decide, by decide⟩, ⟨by decide, by decide⟩⟩ rfl rfl (Nat.le_of_ble_eq_true rfl) dX9_readStep_44) hW (fun x103 s104 H locs rx103 hp105 hW => ?_)
  obtain ⟨es104, hp105⟩ := hp105
  subst es104
  have ghp105 := hp105
  have C44 : x103 = zch (s0 2) (s0 1 2) (s0 1 3) := zch_i (by omega)
  refine x_bipush hx hb dX9_readStep_47 (by decide) ?_
  refine x_isub hx hb dX9_readStep_49 ?_
  refine x_nm (fun x106 ex106 => ?_)
  refine lv_istore (lv' := [(4, .int (xJ x106)), (3, .int (xJ x2)), (2, .int (xJ x1)), (0, .ref (h0 + 126)), (1, .int (xJ q))]) hx hb dX9_readStep_50 hl (by decide) rfl (fun ls hl => ?_)
  refine x_aload_n hx hb hl 3 rfl dX9_readStep_52 rfl ?_
  refine x_get (j := 0) (v := .ref (h0 + 1)) hx hb hown hT hE hW cls_X9 (Or.inl (by decide)) (so_126 h0 g _) (by decide) rfl wq307 dX9_readStep_53 ?_
  refine lv_dup hx hb dX9_readStep_56 rfl ?_
  refine x_getN (j := 3) (v := .int (xJ (s0 1 3))) hx hb hown hT hE hW cls_X8 (Or.inl (by decide)) (so_1 h0 g _) (by decide) rfl wn202 dX9_readStep_57 ?_
  refine x_rd hW (fun x107 ex107 rx107 => ?_)
  have fx107 : x107 = s0 1 3 := ex107.trans k1_3
  refine x_iconst hx hb dX9_readStep_60 ?_
  refine x_iadd hx hb dX9_readStep_61 ?_
  refine x_putN (j := 3) hx hb hown hT hE hW cls_X8 (by decide) (fun σ => so_1 h0 g σ) (by decide) (st_X8_3 h0 s0 1 (x107 + 1)) (ln_X8_3 h0 _ _) wn202 rfl rfl rfl (by omega) dX9_readStep_62 (fun H locs s108 es108 hW => ?_)
  have q109 : IC s108 := by rw [es108]; exact IC_1 p0 (by omega)
  have q110 : s108 1 1 = s0 1 1 := (show s108 1 1 = s0 1 1 from by rw [es108, xU_j _ _ (by decide)]).trans k1_1
  have q111 : s108 1 2 = s0 1 2 := (show s108 1 2 = s0 1 2 from by rw [es108, xU_j _ _ (by decide)]).trans k1_2
  have q112 : s108 1 3 = (x107 + 1) := by rw [es108, xU_s]
  have q113 : s108 126 2 = s0 126 2 := (show s108 126 2 = s0 126 2 from by rw [es108, xU_k _ _ _ (by omega)]).trans k126_2
  have hF114 := hF.put es108 (by omega)
  exact J65 x106 s108 H locs ls (by omega) hF114 q109 q110 q111 q113 (by omega) (by omega) (by omega) (by first | exact ⟨rfl, rfl⟩ | (rw [es108, xU_k _ _ _ (by omega), xU_k _ _ _ (by omega)]; exact ⟨rfl, rfl⟩)) hW (lv_sub hl [3, 4, 2, 1, 0] rfl)
set_option maxHeartbeats 4000000 in
set_option maxRecDepth 100000 in
theorem c_X9_readStepsW1 (l : Launch) (D : va_G) (g : xG) (T : Nat × Nat × Nat) (h0 : Nat) (s0 : xS) (hσ : xRR s0) (q : Int) (rq : xR q) (Z : Int × Int × (Int → Int)) (st : List (Int × Int × Int)) (hq : q = 1) (hst : st.length = 1) (hat : 1 ≤ s0 1 3 ∧ s0 1 3 ≤ s0 1 2 ∧ s0 1 2 ≤ 80) (hz : zWS (s0 2) (s0 1 2) 1 Z true (s0 1 3) (s0 126 2) (s0 127) st) (p0 : IC s0) : Met l yX9_readSteps (xws yX9_readSteps cX9_readSteps 4 (some .boolean)) { frames := 4, cells := 0, slots := 0, locals := 97 } (xP [.ref (h0 + 126), .int (xJ q)] D g T h0 s0) (xQi D g h0 (fun r τ => xFr (fun k => k = 1 ∨ k = 126 ∨ k = 127) s0 τ ∧ (((IC τ) ∧ (τ 1 1 = s0 1 1) ∧ (τ 1 2 = s0 1 2) ∧ True) ∧ ((r = 1 ∧ zWS (s0 2) (s0 1 2) 1 Z false (τ 1 3) (τ 126 2) (τ 127) st ∧ s0 1 3 + 1 ≤ τ 1 3 ∧ τ 1 3 ≤ s0 1 2 ∧ s0 126 2 < τ 126 2 ∧ zch (s0 2) (s0 1 2) (τ 1 3) = 41) ∨ (r = 0 ∧ Z.1 ≠ 0 ∧ τ 1 4 = Z.1))))) 0 0 (xA h0) := by
  refine x_met hσ (by decide) (Nat.le_of_ble_eq_true rfl) ?_
  intro p e s m args below meth c hx hb hr hml hown hT hlk hnm hE hW ls hl
  have hl : lv_has ls 4 [(0, .ref (h0 + 126)), (1, .int (xJ q))] := hl
  obtain ⟨Q, eQ⟩ : ∃ Q, Q = MQ below (xQi D g h0 (fun r τ => xFr (fun k => k = 1 ∨ k = 126 ∨ k = 127) s0 τ ∧ (((IC τ) ∧ (τ 1 1 = s0 1 1) ∧ (τ 1 2 = s0 1 2) ∧ True) ∧ ((r = 1 ∧ zWS (s0 2) (s0 1 2) 1 Z false (τ 1 3) (τ 126 2) (τ 127) st ∧ s0 1 3 + 1 ≤ τ 1 3 ∧ τ 1 3 ≤ s0 1 2 ∧ s0 126 2 < τ 126 2 ∧ zch (s0 2) (s0 1 2) (τ 1 3) = 41) ∨ (r = 0 ∧ Z.1 ≠ 0 ∧ τ 1 4 = Z.1))))) args s 0 0 (xA h0) := ⟨_, rfl⟩
  rw [← eQ]
  generalize hHe : ([] : List Loc) = locs at hW ⊢
  obtain ⟨H, eH⟩ : ∃ H, H = s.heap := ⟨_, rfl⟩
  rw [← eH] at hW ⊢
  have hF : xFr (fun k => k = 1 ∨ k = 126 ∨ k = 127) s0 s0 := xFr.rf
  have k1_1 : s0 1 1 = s0 1 1 := rfl
  have k1_2 : s0 1 2 = s0 1 2 := rfl
  refine x_iload_n hx hb hl 1 rfl dX9_readSteps_0 rfl ?_
  refine x_if_ne (tgt := 8) hx hb rq dX9_readSteps_1 (by decide) (fun c1 => ?_) (fun c1 => False.elim (by omega))
  refine x_bipush hx hb dX9_readSteps_8 (by decide) ?_
  refine lv_istore_n (lv' := [(2, .int (xJ 41)), (0, .ref (h0 + 126)), (1, .int (xJ q))]) hx hb dX9_readSteps_10 rfl hl (by decide) rfl (fun ls hl => ?_)
  refine x_iconst hx hb dX9_readSteps_11 ?_
  refine lv_istore_n (lv' := [(3, .int (xJ 0)), (2, .int (xJ 41)), (0, .ref (h0 + 126)), (1, .int (xJ q))]) hx hb dX9_readSteps_12 rfl hl (by decide) rfl (fun ls hl => ?_)
  have L13 : ∀ (fu : Nat) (i3_13 : Int) (s_13 : xS) (H : Heap) (locs : List Loc) (ls : Array Slot), (xR i3_13) → (xFr (fun k => k = 1 ∨ k = 126 ∨ k = 127) s0 s_13) → (IC s_13) → (s_13 1 1 = s0 1 1) → (s_13 1 2 = s0 1 2) → (0 ≤ i3_13 ∧ i3_13 ≤ s_13 1 3 - s0 1 3 ∧ s_13 1 3 ≤ s0 1 2 ∧ s0 126 2 + i3_13 ≤ s_13 126 2) → (zWS (s0 2) (s0 1 2) 1 Z true (s_13 1 3) (s_13 126 2) (s_13 127) st) → (80 - i3_13).toNat < fu → xW D g h0 s H locs s_13 → lv_has ls 4 [(0, .ref (h0 + 126)), (1, .int (xJ q)), (2, .int (xJ 41)), (3, .int (xJ i3_13))] → W p l e { frames := 4, cells := 0, slots := 0, locals := 97 } s m args below meth c H locs 0 0 Q (F0 m 13 ls []) := by
    intro fu
    induction fu with
    | zero => intro i3_13 s_13 H locs ls ri3_13 hF_13 q13_0 q13_1 q13_2 v13_0 v13_1 hm; exact absurd hm (Nat.not_lt_zero _)
    | succ fu ih13 =>
      intro i3_13 s_13 H locs ls ri3_13 hF_13 q13_0 q13_1 q13_2 v13_0 v13_1 hm hW hl
      refine x_iload_n hx hb hl 3 rfl dX9_readSteps_13 rfl ?_
      refine x_bipush hx hb dX9_readSteps_14 (by decide) ?_
      refine x_icmp_ge (tgt := 48) hx hb ri3_13 (by decide) dX9_readSteps_16 (by decide) (fun c2 => False.elim (by omega)) (fun c2 => ?_)
      refine x_aload_n hx hb hl 0 rfl dX9_readSteps_19 rfl ?_
      refine x_iload_n hx hb hl 1 rfl dX9_readSteps_20 rfl ?_
      refine x_goi (x_runV (As := [.int (xJ q)]) hx hb hml hown hT hE hW hl.1 (Or.inl (by decide)) (so_126 h0 g _) rfl cf_X9_readStep wq725 wq30 wq723 (c_X9_readStepW1 l D g T h0 s_13 hW.2.1 q rq Z st (by omega) (hst) (by omega) (by rw [hF_13 2 (by omega), show s_13 1 2 = s0 1 2 from by omega]; exact v13_1) q13_0) ⟨rfl, rfl, ⟨by decide, by decide⟩, ⟨by decide, by decide⟩⟩ rfl rfl (Nat.le_of_ble_eq_true rfl) dX9_readSteps_21) hW (fun x3 s4 H locs rx3 hp5 hW => ?_)
      obtain ⟨fs4, hp5⟩ := hp5
      have hF6 := hF_13.call fs4 (fun k h => by omega)
      have ghp5 := hp5.2
      have H21 := ghp5
      rw [hF_13 2 (by omega), show s_13 1 2 = s0 1 2 from by omega] at H21
      have G21 : s4 2 = s0 2 := hF6 2 (by omega)
      have Y21 : s4 1 3 < s0 1 2 → 0 ≤ s4 1 3 → 0 ≤ zch (s0 2) (s0 1 2) (s4 1 3) := fun h h9 => by
        have b := (IC.by_ hp5.1.1) (s4 1 3) (by omega) (by omega)
        rw [G21] at b
        rw [← zch_i (Or.inl ⟨h, rfl⟩)]
        exact b.1
      refine x_if_ne (tgt := 29) hx hb rx3 dX9_readSteps_24 (by decide) (fun c7 => ?_) (fun c7 => ?_)
      · skip
        refine x_aload_n hx hb hl 0 rfl dX9_readSteps_29 rfl ?_
        have D21 := (H21.resolve_right (fun q => by omega)).2
        refine x_get (j := 0) (v := .ref (h0 + 1)) hx hb hown hT hE hW cls_X9 (Or.inl (by decide)) (so_126 h0 g _) (by decide) rfl wq307 dX9_readSteps_30 ?_
        refine x_goi (x_runVN (As := []) hx hb hml hown hT hE hW hl.1 (Or.inl (by decide)) (so_1 h0 g _) rfl cf_X8_sign wq581 wq4 wn727 (c_X8_sign l D g T h0 s4 hW.2.1 hp5.1.1) ⟨rfl, rfl, ⟨by decide, by decide⟩, ⟨by decide, by decide⟩⟩ rfl rfl (Nat.le_of_ble_eq_true rfl) dX9_readSteps_33) hW (fun x8 s9 H locs rx8 hp10 hW => ?_)
        obtain ⟨es9, hp10⟩ := hp10
        subst es9
        have ghp10 := hp10
        have C33 : x8 = zch (s0 2) (s0 1 2) (s4 1 3) := zch_i (by have q := congrFun (hF6 2 (by omega)) (s4 1 3); omega)
        have X33 : zch (s0 2) (s0 1 2) (s4 1 3) ≠ -1 → s4 1 3 < s0 1 2 := zch_lt
        refine x_iload_n hx hb hl 2 rfl dX9_readSteps_36 rfl ?_
        refine x_icmp_ne (tgt := 42) hx hb rx8 (by decide) dX9_readSteps_37 (by decide) (fun c11 => ?_) (fun c11 => ?_)
        · skip
          refine x_iinc (lv' := [(3, .int (xJ (i3_13 + 1))), (0, .ref (h0 + 126)), (1, .int (xJ q)), (2, .int (xJ 41))]) hx hb hl 3 rfl dX9_readSteps_42 (by decide) rfl (fun ls hl => ?_)
          refine lv_goto (tgt := 13) hx hb dX9_readSteps_45 (by decide) ?_
          exact ih13 (i3_13 + 1) s4 H locs ls (by omega) hF6 hp5.1.1 (hp5.1.2.1.trans q13_1) (hp5.1.2.2.1.trans q13_2) (by omega) (D21.1.moreN (by omega) (by omega) (by omega)) (by omega) hW (lv_sub hl [1, 2, 3, 0] rfl)
        refine x_iconst hx hb dX9_readSteps_40 ?_
        rw [eQ]
        exact x_zret hx hb hr hlk hW (by omega) ⟨hF6, ⟨hp5.1.1, (hp5.1.2.1.trans q13_1), (hp5.1.2.2.1.trans q13_2), trivial⟩, Or.inl ⟨by omega, D21.1, by omega, by omega, by omega, by omega⟩⟩ dX9_readSteps_41
      refine x_iconst hx hb dX9_readSteps_27 ?_
      rw [eQ]
      exact x_zret hx hb hr hlk hW (by omega) ⟨hF6, ⟨hp5.1.1, (hp5.1.2.1.trans q13_1), (hp5.1.2.2.1.trans q13_2), trivial⟩, H21.elim (fun q => absurd q.1 (by omega)) (fun q => Or.inr ⟨by omega, q.2⟩)⟩ dX9_readSteps_28
  exact L13 ((80 - 0 : Int).toNat + 1) 0 s0 H locs ls (by decide) hF p0 k1_1 k1_2 (by omega) (hz) (Nat.lt_succ_self _) hW (lv_sub hl [2, 3, 1, 0] rfl)
set_option maxHeartbeats 4000000 in
set_option maxRecDepth 100000 in
theorem c_X9_readStepW0 (l : Launch) (D : va_G) (g : xG) (T : Nat × Nat × Nat) (h0 : Nat) (s0 : xS) (hσ : xRR s0) (q : Int) (rq : xR q) (Z : Int × Int × (Int → Int)) (st : List (Int × Int × Int)) (hq : q = 0) (hst : st.length = 0) (hat : 0 ≤ s0 1 3 ∧ s0 1 3 ≤ s0 1 2 ∧ s0 1 2 ≤ 80) (hz : zWS (s0 2) (s0 1 2) 1 Z true (s0 1 3) (s0 126 2) (s0 127) st) (p0 : IC s0) : Met l yX9_readStep (xws yX9_readStep cX9_readStep 6 (some .boolean)) { frames := 5, cells := 0, slots := 0, locals := 120 } (xP [.ref (h0 + 126), .int (xJ q)] D g T h0 s0) (xQi D g h0 (fun r τ => xFr (fun k => k = 1 ∨ k = 126 ∨ k = 127) s0 τ ∧ (((IC τ) ∧ (τ 1 1 = s0 1 1) ∧ (τ 1 2 = s0 1 2) ∧ True) ∧ ((r = 1 ∧ zWS (s0 2) (s0 1 2) 1 Z false (τ 1 3) (τ 126 2) (τ 127) st ∧ s0 1 3 + 1 ≤ τ 1 3 ∧ τ 1 3 ≤ s0 1 2 ∧ s0 126 2 < τ 126 2) ∨ (r = 0 ∧ Z.1 ≠ 0 ∧ τ 1 4 = Z.1))))) 0 0 (xA h0) := by
  refine x_met hσ (by decide) (Nat.le_of_ble_eq_true rfl) ?_
  intro p e s m args below meth c hx hb hr hml hown hT hlk hnm hE hW ls hl
  have hl : lv_has ls 6 [(0, .ref (h0 + 126)), (1, .int (xJ q))] := hl
  obtain ⟨Q, eQ⟩ : ∃ Q, Q = MQ below (xQi D g h0 (fun r τ => xFr (fun k => k = 1 ∨ k = 126 ∨ k = 127) s0 τ ∧ (((IC τ) ∧ (τ 1 1 = s0 1 1) ∧ (τ 1 2 = s0 1 2) ∧ True) ∧ ((r = 1 ∧ zWS (s0 2) (s0 1 2) 1 Z false (τ 1 3) (τ 126 2) (τ 127) st ∧ s0 1 3 + 1 ≤ τ 1 3 ∧ τ 1 3 ≤ s0 1 2 ∧ s0 126 2 < τ 126 2) ∨ (r = 0 ∧ Z.1 ≠ 0 ∧ τ 1 4 = Z.1))))) args s 0 0 (xA h0) := ⟨_, rfl⟩
  rw [← eQ]
  generalize hHe : ([] : List Loc) = locs at hW ⊢
  obtain ⟨H, eH⟩ : ∃ H, H = s.heap := ⟨_, rfl⟩
  rw [← eH] at hW ⊢
  have hF : xFr (fun k => k = 1 ∨ k = 126 ∨ k = 127) s0 s0 := xFr.rf
  have k1_1 : s0 1 1 = s0 1 1 := rfl
  have k1_2 : s0 1 2 = s0 1 2 := rfl
  have k1_3 : s0 1 3 = s0 1 3 := rfl
  have k126_2 : s0 126 2 = s0 126 2 := rfl
  refine x_aload_n hx hb hl 0 rfl dX9_readStep_0 rfl ?_
  refine x_get (j := 0) (v := .ref (h0 + 1)) hx hb hown hT hE hW cls_X9 (Or.inl (by decide)) (so_126 h0 g _) (by decide) rfl wq307 dX9_readStep_1 ?_
  refine x_getN (j := 3) (v := .int (xJ (s0 1 3))) hx hb hown hT hE hW cls_X8 (Or.inl (by decide)) (so_1 h0 g _) (by decide) rfl wn202 dX9_readStep_4 ?_
  refine x_rd hW (fun x1 ex1 rx1 => ?_)
  have fx1 : x1 = s0 1 3 := ex1.trans k1_3
  refine lv_istore_n (lv' := [(2, .int (xJ x1)), (0, .ref (h0 + 126)), (1, .int (xJ q))]) hx hb dX9_readStep_7 rfl hl (by decide) rfl (fun ls hl => ?_)
  refine x_aload_n hx hb hl 1 rfl dX9_readStep_8 rfl ?_
  refine x_get (j := 2) (v := .int (xJ (s0 126 2))) hx hb hown hT hE hW cls_X9 (Or.inl (by decide)) (so_126 h0 g _) (by decide) rfl wq309 dX9_readStep_9 ?_
  refine x_rd hW (fun x2 ex2 rx2 => ?_)
  have bx2 : 0 ≤ x2 ∧ x2 ≤ 60 := by rw [ex2]; exact IC.y p0
  have fx2 : x2 = s0 126 2 := ex2.trans k126_2
  refine lv_istore_n (lv' := [(3, .int (xJ x2)), (2, .int (xJ x1)), (0, .ref (h0 + 126)), (1, .int (xJ q))]) hx hb dX9_readStep_12 rfl hl (by decide) rfl (fun ls hl => ?_)
  refine x_iconst hx hb dX9_readStep_13 ?_
  refine lv_istore (lv' := [(4, .int (xJ 1)), (3, .int (xJ x2)), (2, .int (xJ x1)), (0, .ref (h0 + 126)), (1, .int (xJ q))]) hx hb dX9_readStep_14 hl (by decide) rfl (fun ls hl => ?_)
  refine x_aload_n hx hb hl 3 rfl dX9_readStep_16 rfl ?_
  refine x_get (j := 0) (v := .ref (h0 + 1)) hx hb hown hT hE hW cls_X9 (Or.inl (by decide)) (so_126 h0 g _) (by decide) rfl wq307 dX9_readStep_17 ?_
  refine x_goi (x_runVN (As := []) hx hb hml hown hT hE hW hl.1 (Or.inl (by decide)) (so_1 h0 g _) rfl cf_X8_sign wq581 wq4 wn727 (c_X8_sign l D g T h0 s0 hW.2.1 p0) ⟨rfl, rfl, ⟨by decide, by decide⟩, ⟨by decide, by decide⟩⟩ rfl rfl (Nat.le_of_ble_eq_true rfl) dX9_readStep_20) hW (fun x3 s4 H locs rx3 hp5 hW => ?_)
  obtain ⟨es4, hp5⟩ := hp5
  subst es4
  have ghp5 := hp5
  have C20 : x3 = zch (s0 2) (s0 1 2) (s0 1 3) := zch_i (by omega)
  have T20 := wtm_cs (zch (s0 2) (s0 1 2) (s0 1 3))
  have P20 := wp1_cs (s0 2) (s0 1 2) (s0 1 3)
  have X20 : zch (s0 2) (s0 1 2) (s0 1 3) ≠ -1 → s0 1 3 < s0 1 2 := zch_lt
  refine x_bipush hx hb dX9_readStep_23 (by decide) ?_
  have J65 : ∀ (i4_65 : Int) (s_65 : xS) (H : Heap) (locs : List Loc) (ls : Array Slot), (xR i4_65) → (xFr (fun k => k = 1 ∨ k = 126 ∨ k = 127) s0 s_65) → (IC s_65) → (s_65 1 1 = s0 1 1) → (s_65 1 2 = s0 1 2) → (s_65 126 2 = s0 126 2) → (1 ≤ i4_65 ∧ i4_65 ≤ 9) → (i4_65 = wtm (zch (s0 2) (s0 1 2) (s0 1 3)) ∧ s_65 1 3 = wp1 (s0 2) (s0 1 2) (s0 1 3)) → (s_65 1 3 ≤ s0 1 2) → (s_65 126 2 = s0 126 2 ∧ s_65 127 = s0 127) → xW D g h0 s H locs s_65 → lv_has ls 6 [(0, .ref (h0 + 126)), (1, .int (xJ q)), (2, .int (xJ x1)), (3, .int (xJ x2)), (4, .int (xJ i4_65))] → W p l e { frames := 5, cells := 0, slots := 0, locals := 120 } s m args below meth c H locs 0 0 Q (F0 m 65 ls []) := by
    intro i4_65 s_65 H locs ls ri4_65 hF_65 q65_0 q65_1 q65_2 q65_4 v65_0 v65_1 v65_2 v65_3 hW hl
    refine x_aload_n hx hb hl 0 rfl dX9_readStep_65 rfl ?_
    refine x_get (j := 0) (v := .ref (h0 + 1)) hx hb hown hT hE hW cls_X9 (Or.inl (by decide)) (so_126 h0 g _) (by decide) rfl wq307 dX9_readStep_66 ?_
    refine x_goi (x_runVN (As := []) hx hb hml hown hT hE hW hl.1 (Or.inl (by decide)) (so_1 h0 g _) rfl cf_X8_sign wq581 wq4 wn727 (c_X8_sign l D g T h0 s_65 hW.2.1 q65_0) ⟨rfl, rfl, ⟨by decide, by decide⟩, ⟨by decide, by decide⟩⟩ rfl rfl (Nat.le_of_ble_eq_true rfl) dX9_readStep_69) hW (fun x6 s7 H locs rx6 hp8 hW => ?_)
    obtain ⟨es7, hp8⟩ := hp8
    subst es7
    have ghp8 := hp8
    have C69 : x6 = zch (s0 2) (s0 1 2) (s_65 1 3) := zch_i (by have q := congrFun (hF_65 2 (by omega)) (s_65 1 3); omega)
    have X69 : zch (s0 2) (s0 1 2) (s_65 1 3) ≠ -1 → s_65 1 3 < s0 1 2 := zch_lt
    refine x_bipush hx hb dX9_readStep_72 (by decide) ?_
    refine x_icmp_ne (tgt := 166) hx hb rx6 (by decide) dX9_readStep_74 (by decide) (fun c9 => ?_) (fun c9 => ?_)
    · skip
      refine x_aload_n hx hb hl 0 rfl dX9_readStep_166 rfl ?_
      refine x_get (j := 0) (v := .ref (h0 + 1)) hx hb hown hT hE hW cls_X9 (Or.inl (by decide)) (so_126 h0 g _) (by decide) rfl wq307 dX9_readStep_167 ?_
      refine x_goi (x_runVN (As := []) hx hb hml hown hT hE hW hl.1 (Or.inl (by decide)) (so_1 h0 g _) rfl cf_X8_sign wq581 wq4 wn727 (c_X8_sign l D g T h0 s_65 hW.2.1 q65_0) ⟨rfl, rfl, ⟨by decide, by decide⟩, ⟨by decide, by decide⟩⟩ rfl rfl (Nat.le_of_ble_eq_true rfl) dX9_readStep_170) hW (fun x10 s11 H locs rx10 hp12 hW => ?_)
      obtain ⟨es11, hp12⟩ := hp12
      subst es11
      have ghp12 := hp12
      have C170 : x10 = zch (s0 2) (s0 1 2) (s_65 1 3) := zch_i (by have q := congrFun (hF_65 2 (by omega)) (s_65 1 3); omega)
      refine x_goi (x_runS (As := [.int (xJ x10)]) hx hb hml hown hT hE hW hl.1 cf_X9_stepOf wq735 wq734 (c_X9_stepOfW l D g T h0 s_65 hW.2.1 x10 rx10) ⟨rfl, rfl, ⟨by decide, by decide⟩, ⟨by decide, by decide⟩⟩ rfl rfl (Nat.le_of_ble_eq_true rfl) dX9_readStep_173) hW (fun x13 s14 H locs rx13 hp15 hW => ?_)
      obtain ⟨es14, hp15⟩ := hp15
      subst es14
      have ghp15 := hp15
      have S173 := wst_i ghp15
      rw [C170] at S173
      refine lv_istore (lv' := [(5, .int (xJ x13)), (0, .ref (h0 + 126)), (1, .int (xJ q)), (2, .int (xJ x1)), (3, .int (xJ x2)), (4, .int (xJ i4_65))]) hx hb dX9_readStep_176 hl (by decide) rfl (fun ls hl => ?_)
      refine x_iload hx hb hl 0 rfl dX9_readStep_178 ?_
      refine x_iconst hx hb dX9_readStep_180 ?_
      refine x_icmp_ne (tgt := 200) hx hb rx13 (by decide) dX9_readStep_181 (by decide) (fun c16 => ?_) (fun c16 => ?_)
      · skip
        refine x_aload_n hx hb hl 1 rfl dX9_readStep_200 rfl ?_
        refine x_get (j := 0) (v := .ref (h0 + 1)) hx hb hown hT hE hW cls_X9 (Or.inl (by decide)) (so_126 h0 g _) (by decide) rfl wq307 dX9_readStep_201 ?_
        refine lv_dup hx hb dX9_readStep_204 rfl ?_
        refine x_getN (j := 3) (v := .int (xJ (s_65 1 3))) hx hb hown hT hE hW cls_X8 (Or.inl (by decide)) (so_1 h0 g _) (by decide) rfl wn202 dX9_readStep_205 ?_
        refine x_rd hW (fun x17 ex17 rx17 => ?_)
        refine x_iconst hx hb dX9_readStep_208 ?_
        refine x_iadd hx hb dX9_readStep_209 ?_
        refine x_putN (j := 3) hx hb hown hT hE hW cls_X8 (by decide) (fun σ => so_1 h0 g σ) (by decide) (st_X8_3 h0 s_65 1 (x17 + 1)) (ln_X8_3 h0 _ _) wn202 rfl rfl rfl (by omega) dX9_readStep_210 (fun H locs s18 es18 hW => ?_)
        have q19 : IC s18 := by rw [es18]; exact IC_1 q65_0 (by omega)
        have q20 : s18 1 1 = s0 1 1 := (show s18 1 1 = s_65 1 1 from by rw [es18, xU_j _ _ (by decide)]).trans q65_1
        have q21 : s18 1 2 = s0 1 2 := (show s18 1 2 = s_65 1 2 from by rw [es18, xU_j _ _ (by decide)]).trans q65_2
        have q22 : s18 126 2 = s0 126 2 := (show s18 126 2 = s_65 126 2 from by rw [es18, xU_k _ _ _ (by omega)]).trans q65_4
        have q23 : s18 1 3 = (x17 + 1) := by rw [es18, xU_s]
        have hF24 := hF_65.put es18 (by omega)
        have Q210 : s18 126 2 = s0 126 2 ∧ s18 127 = s0 127 := by rw [es18, xU_k _ _ _ (by omega), xU_k _ _ _ (by omega)]; exact v65_3
        refine x_aload_n hx hb hl 1 rfl dX9_readStep_213 rfl ?_
        refine x_get (j := 2) (v := .int (xJ (s18 126 2))) hx hb hown hT hE hW cls_X9 (Or.inl (by decide)) (so_126 h0 g _) (by decide) rfl wq309 dX9_readStep_214 ?_
        refine x_rd hW (fun x25 ex25 rx25 => ?_)
        have bx25 : 0 ≤ x25 ∧ x25 ≤ 60 := by rw [ex25]; exact IC.y q19
        have fx25 : x25 = s0 126 2 := ex25.trans q22
        refine x_bipush hx hb dX9_readStep_217 (by decide) ?_
        refine x_icmp_lt (tgt := 233) hx hb rx25 (by decide) dX9_readStep_219 (by decide) (fun c26 => ?_) (fun c26 => ?_)
        · skip
          refine x_aload_n hx hb hl 1 rfl dX9_readStep_233 rfl ?_
          refine x_get (j := 1) (v := .ref (h0 + 127)) hx hb hown hT hE hW cls_X9 (Or.inl (by decide)) (so_126 h0 g _) (by decide) rfl wq308 dX9_readStep_234 ?_
          refine x_aload_n hx hb hl 1 rfl dX9_readStep_237 rfl ?_
          refine x_get (j := 2) (v := .int (xJ (s18 126 2))) hx hb hown hT hE hW cls_X9 (Or.inl (by decide)) (so_126 h0 g _) (by decide) rfl wq309 dX9_readStep_238 ?_
          refine x_rd hW (fun x27 ex27 rx27 => ?_)
          have bx27 : 0 ≤ x27 ∧ x27 ≤ 60 := by rw [ex27]; exact IC.y q19
          have fx27 : x27 = s0 126 2 := ex27.trans q22
          refine x_iload hx hb hl 0 rfl dX9_readStep_241 ?_
          refine x_iast hx hb hE hW (by decide) (fun σ => sa_127 h0 g σ) (by omega) (by decide) rx13 dX9_readStep_243 (fun H locs s28 es28 hW => ?_)
          have q29 : IC s28 := by rw [es28]; exact IC_o (by decide) q19
          have q30 : s28 1 1 = s0 1 1 := (show s28 1 1 = s18 1 1 from by rw [es28, xU_k _ _ _ (by omega)]).trans q20
          have q31 : s28 1 2 = s0 1 2 := (show s28 1 2 = s18 1 2 from by rw [es28, xU_k _ _ _ (by omega)]).trans q21
          have q32 : s28 126 2 = s0 126 2 := (show s28 126 2 = s18 126 2 from by rw [es28, xU_k _ _ _ (by omega)]).trans q22
          have q33 : s28 1 3 = (x17 + 1) := (show s28 1 3 = s18 1 3 from by rw [es28, xU_k _ _ _ (by omega)]).trans q23
          have hF34 := hF24.put es28 (by omega)
          have A243 : s28 127 = xud (s0 127) (s0 126 2) (1 * wst (zch (s0 2) (s0 1 2) (s_65 1 3))) ∧ s28 1 3 = s_65 1 3 + 1 := ⟨by rw [es28, xU_xud, Q210.2, show x27 = s0 126 2 from by omega, Int.one_mul, ← S173], by rw [es28, xU_k _ _ _ (by omega)]; omega⟩
          refine x_aload_n hx hb hl 1 rfl dX9_readStep_244 rfl ?_
          refine lv_dup hx hb dX9_readStep_245 rfl ?_
          refine x_get (j := 2) (v := .int (xJ (s28 126 2))) hx hb hown hT hE hW cls_X9 (Or.inl (by decide)) (so_126 h0 g _) (by decide) rfl wq309 dX9_readStep_246 ?_
          refine x_rd hW (fun x35 ex35 rx35 => ?_)
          have bx35 : 0 ≤ x35 ∧ x35 ≤ 60 := by rw [ex35]; exact IC.y q29
          have fx35 : x35 = s0 126 2 := ex35.trans q32
          refine x_iconst hx hb dX9_readStep_249 ?_
          refine x_iadd hx hb dX9_readStep_250 ?_
          refine x_put (j := 2) hx hb hown hT hE hW cls_X9 (by decide) (fun σ => so_126 h0 g σ) (by decide) (st_X9_2 h0 s28 126 (x35 + 1)) (ln_X9_2 h0 _ _) wq309 rfl rfl rfl (by omega) dX9_readStep_251 (fun H locs s36 es36 hW => ?_)
          have q37 : IC s36 := by rw [es36]; exact IC_126 q29 (by omega)
          have q38 : s36 1 1 = s0 1 1 := (show s36 1 1 = s28 1 1 from by rw [es36, xU_k _ _ _ (by omega)]).trans q30
          have q39 : s36 1 2 = s0 1 2 := (show s36 1 2 = s28 1 2 from by rw [es36, xU_k _ _ _ (by omega)]).trans q31
          have q40 : s36 126 2 = (x35 + 1) := by rw [es36, xU_s]
          have q41 : s36 1 3 = (x17 + 1) := (show s36 1 3 = s28 1 3 from by rw [es36, xU_k _ _ _ (by omega)]).trans q33
          have hF42 := hF34.put es36 (by omega)
          have A251 : s36 127 = xud (s0 127) (s0 126 2) (1 * wst (zch (s0 2) (s0 1 2) (s_65 1 3))) ∧ s36 1 3 = s_65 1 3 + 1 := by rw [es36, xU_k _ _ _ (by omega), xU_k _ _ _ (by omega)]; exact A243
          have B251 : s36 126 2 = s0 126 2 + 1 := by omega
          refine x_aload_n hx hb hl 1 rfl dX9_readStep_254 rfl ?_
          refine x_iload_n hx hb hl 4 rfl dX9_readStep_255 rfl ?_
          refine x_iload hx hb hl 5 rfl dX9_readStep_256 ?_
          refine x_iconst hx hb dX9_readStep_258 ?_
          refine x_isub hx hb dX9_readStep_259 ?_
          refine x_goi (x_runV (As := [.int (xJ x2), .int (xJ (i4_65 - 1))]) hx hb hml hown hT hE hW hl.1 (Or.inl (by decide)) (so_126 h0 g _) rfl cf_X9_repeat wq732 wq31 wq730 (c_X9_repeatW l D g T h0 s36 hW.2.1 x2 rx2 (i4_65 - 1) (by omega) (by have y := IC.y q37; omega) (by omega) q37) ⟨rfl, rfl, ⟨by decide, by decide⟩, ⟨by decide, by decide⟩⟩ rfl rfl (Nat.le_of_ble_eq_true rfl) dX9_readStep_260) hW (fun x43 s44 H locs rx43 hp45 hW => ?_)
          obtain ⟨fs44, hp45⟩ := hp45
          have hF46 := hF42.call fs44 (fun k h => by omega)
          have q47 : s44 1 1 = s0 1 1 := (congrFun (fs44 _ (by omega)) _).trans q38
          have q48 : s44 1 2 = s0 1 2 := (congrFun (fs44 _ (by omega)) _).trans q39
          have q49 : s44 1 3 = (x17 + 1) := (congrFun (fs44 _ (by omega)) _).trans q41
          have ghp45 := hp45.2
          have R260 := ghp45
          rw [A251.1, B251, show x2 = s0 126 2 from by omega, show s0 126 2 + 1 - s0 126 2 = 1 from by omega, Int.mul_one] at R260
          have E260 : s44 1 3 = s_65 1 3 + 1 := (congrFun (fs44 1 (by omega)) 3).trans A251.2
          refine x_if_ne (tgt := 279) hx hb rx43 dX9_readStep_263 (by decide) (fun c50 => ?_) (fun c50 => ?_)
          · skip
            refine x_iconst hx hb dX9_readStep_279 ?_
            refine lv_goto (tgt := 284) hx hb dX9_readStep_280 (by decide) ?_
            rw [eQ]
            exact x_zret hx hb hr hlk hW (by omega) ⟨hF46, ⟨hp45.1.1, q47, q48, trivial⟩, by first | exact Or.inl ⟨by omega, hz.step (by omega) v65_1.2 v65_1.1 (by omega) (by omega) (by omega) (by omega) (by omega) (R260.resolve_right (fun q => by omega)).2.2.2, by omega, by omega, by omega⟩ | (have z := hz.six (by omega) v65_1.2 v65_1.1 (by omega) (by omega) (by omega); rw [z]; exact Or.inr ⟨by omega, (by show (-6000 - _ : Int) ≠ 0; omega), (by show _ = (-6000 - _ : Int); omega)⟩)⟩ dX9_readStep_284
          refine x_aload_n hx hb hl 1 rfl dX9_readStep_266 rfl ?_
          refine x_get (j := 0) (v := .ref (h0 + 1)) hx hb hown hT hE hW cls_X9 (Or.inl (by decide)) (so_126 h0 g _) (by decide) rfl wq307 dX9_readStep_267 ?_
          refine x_bipush hx hb dX9_readStep_270 (by decide) ?_
          refine x_iload_n hx hb hl 3 rfl dX9_readStep_272 rfl ?_
          refine x_goi (x_runVN (As := [.int (xJ 6), .int (xJ x1)]) hx hb hml hown hT hE hW hl.1 (Or.inl (by decide)) (so_1 h0 g _) rfl cf_X8_fails wq588 wq5 wn728 (c_X8_failsM l D g T h0 s44 hW.2.1 6 (by decide) x1 rx1 (by omega) hp45.1.1) ⟨rfl, rfl, ⟨by decide, by decide⟩, ⟨by decide, by decide⟩⟩ rfl rfl (Nat.le_of_ble_eq_true rfl) dX9_readStep_273) hW (fun x51 s52 H locs rx51 hp53 hW => ?_)
          obtain ⟨fs52, hp53⟩ := hp53
          have hF54 := hF46.call fs52 (fun k h => by omega)
          have ghp53 := hp53.2
          refine x_if_eq (tgt := 283) hx hb rx51 dX9_readStep_276 (by decide) (fun c55 => ?_) (fun c55 => False.elim (by omega))
          refine x_iconst hx hb dX9_readStep_283 ?_
          rw [eQ]
          exact x_zret hx hb hr hlk hW (by omega) ⟨hF54, ⟨hp53.1.1, (hp53.1.2.1.trans q47), (hp53.1.2.2.1.trans q48), trivial⟩, by first | exact Or.inl ⟨by omega, hz.step (by omega) v65_1.2 v65_1.1 (by omega) (by omega) (by omega) (by omega) (by omega) (R260.resolve_right (fun q => by omega)).2.2.2, by omega, by omega, by omega⟩ | (have z := hz.six (by omega) v65_1.2 v65_1.1 (by omega) (by omega) (by omega); rw [z]; exact Or.inr ⟨by omega, (by show (-6000 - _ : Int) ≠ 0; omega), (by show _ = (-6000 - _ : Int); omega)⟩)⟩ dX9_readStep_284
        refine x_aload_n hx hb hl 1 rfl dX9_readStep_222 rfl ?_
        refine x_get (j := 0) (v := .ref (h0 + 1)) hx hb hown hT hE hW cls_X9 (Or.inl (by decide)) (so_126 h0 g _) (by decide) rfl wq307 dX9_readStep_223 ?_
        refine x_bipush hx hb dX9_readStep_226 (by decide) ?_
        refine x_iload_n hx hb hl 3 rfl dX9_readStep_228 rfl ?_
        refine x_goi (x_runVN (As := [.int (xJ 6), .int (xJ x1)]) hx hb hml hown hT hE hW hl.1 (Or.inl (by decide)) (so_1 h0 g _) rfl cf_X8_fails wq588 wq5 wn728 (c_X8_failsM l D g T h0 s18 hW.2.1 6 (by decide) x1 rx1 (by omega) q19) ⟨rfl, rfl, ⟨by decide, by decide⟩, ⟨by decide, by decide⟩⟩ rfl rfl (Nat.le_of_ble_eq_true rfl) dX9_readStep_229) hW (fun x56 s57 H locs rx56 hp58 hW => ?_)
        obtain ⟨fs57, hp58⟩ := hp58
        have hF59 := hF24.call fs57 (fun k h => by omega)
        have q60 : s57 126 2 = s0 126 2 := (congrFun (fs57 _ (by omega)) _).trans q22
        have ghp58 := hp58.2
        rw [eQ]
        exact x_zret hx hb hr hlk hW (by omega) ⟨hF59, ⟨hp58.1.1, (hp58.1.2.1.trans q20), (hp58.1.2.2.1.trans q21), trivial⟩, by
    have z := hz.six (by omega) v65_1.2 v65_1.1 (by omega) (by omega) (by omega)
    rw [z]
    exact Or.inr ⟨by omega, (by show (-6000 - _ : Int) ≠ 0; omega), (by show _ = (-6000 - _ : Int); omega)⟩⟩ dX9_readStep_232
      refine x_aload_n hx hb hl 1 rfl dX9_readStep_184 rfl ?_
      refine x_get (j := 0) (v := .ref (h0 + 1)) hx hb hown hT hE hW cls_X9 (Or.inl (by decide)) (so_126 h0 g _) (by decide) rfl wq307 dX9_readStep_185 ?_
      refine x_iconst hx hb dX9_readStep_188 ?_
      refine x_aload_n hx hb hl 1 rfl dX9_readStep_189 rfl ?_
      refine x_get (j := 0) (v := .ref (h0 + 1)) hx hb hown hT hE hW cls_X9 (Or.inl (by decide)) (so_126 h0 g _) (by decide) rfl wq307 dX9_readStep_190 ?_
      refine x_getN (j := 3) (v := .int (xJ (s_65 1 3))) hx hb hown hT hE hW cls_X8 (Or.inl (by decide)) (so_1 h0 g _) (by decide) rfl wn202 dX9_readStep_193 ?_
      refine x_rd hW (fun x61 ex61 rx61 => ?_)
      refine x_goi (x_runVN (As := [.int (xJ 1), .int (xJ x61)]) hx hb hml hown hT hE hW hl.1 (Or.inl (by decide)) (so_1 h0 g _) rfl cf_X8_fails wq588 wq5 wn728 (c_X8_failsM l D g T h0 s_65 hW.2.1 1 (by decide) x61 rx61 (by omega) q65_0) ⟨rfl, rfl, ⟨by decide, by decide⟩, ⟨by decide, by decide⟩⟩ rfl rfl (Nat.le_of_ble_eq_true rfl) dX9_readStep_196) hW (fun x62 s63 H locs rx62 hp64 hW => ?_)
      obtain ⟨fs63, hp64⟩ := hp64
      have hF65 := hF_65.call fs63 (fun k h => by omega)
      have q66 : s63 126 2 = s0 126 2 := (congrFun (fs63 _ (by omega)) _).trans q65_4
      have ghp64 := hp64.2
      rw [eQ]
      exact x_zret hx hb hr hlk hW (by omega) ⟨hF65, ⟨hp64.1.1, (hp64.1.2.1.trans q65_1), (hp64.1.2.2.1.trans q65_2), trivial⟩, by
    have z := hz.one (by omega) v65_1.2 (by omega) (by omega)
    rw [z]
    exact Or.inr ⟨by omega, (by show (-1000 - _ : Int) ≠ 0; omega), (by show _ = (-1000 - _ : Int); omega)⟩⟩ dX9_readStep_199
    refine x_iload_n hx hb hl 1 rfl dX9_readStep_77 rfl ?_
    refine x_iconst hx hb dX9_readStep_78 ?_
    refine x_icmp_lt (tgt := 98) hx hb rq (by decide) dX9_readStep_79 (by decide) (fun c67 => ?_) (fun c67 => False.elim (by omega))
    refine x_aload_n hx hb hl 0 rfl dX9_readStep_98 rfl ?_
    refine x_get (j := 0) (v := .ref (h0 + 1)) hx hb hown hT hE hW cls_X9 (Or.inl (by decide)) (so_126 h0 g _) (by decide) rfl wq307 dX9_readStep_99 ?_
    refine lv_dup hx hb dX9_readStep_102 rfl ?_
    refine x_getN (j := 3) (v := .int (xJ (s_65 1 3))) hx hb hown hT hE hW cls_X8 (Or.inl (by decide)) (so_1 h0 g _) (by decide) rfl wn202 dX9_readStep_103 ?_
    refine x_rd hW (fun x68 ex68 rx68 => ?_)
    refine x_iconst hx hb dX9_readStep_106 ?_
    refine x_iadd hx hb dX9_readStep_107 ?_
    refine x_putN (j := 3) hx hb hown hT hE hW cls_X8 (by decide) (fun σ => so_1 h0 g σ) (by decide) (st_X8_3 h0 s_65 1 (x68 + 1)) (ln_X8_3 h0 _ _) wn202 rfl rfl rfl (by omega) dX9_readStep_108 (fun H locs s69 es69 hW => ?_)
    have q70 : IC s69 := by rw [es69]; exact IC_1 q65_0 (by omega)
    have q71 : s69 1 1 = s0 1 1 := (show s69 1 1 = s_65 1 1 from by rw [es69, xU_j _ _ (by decide)]).trans q65_1
    have q72 : s69 1 2 = s0 1 2 := (show s69 1 2 = s_65 1 2 from by rw [es69, xU_j _ _ (by decide)]).trans q65_2
    have q73 : s69 126 2 = s0 126 2 := (show s69 126 2 = s_65 126 2 from by rw [es69, xU_k _ _ _ (by omega)]).trans q65_4
    have q74 : s69 1 3 = (x68 + 1) := by rw [es69, xU_s]
    have hF75 := hF_65.put es69 (by omega)
    have Q108 : s69 126 2 = s0 126 2 ∧ s69 127 = s0 127 := by rw [es69, xU_k _ _ _ (by omega), xU_k _ _ _ (by omega)]; exact v65_3
    have G108 : s69 2 = s0 2 := hF75 2 (by omega)
    have N108 : s69 1 2 = s0 1 2 := q72
    have O108 : zWS (s69 2) (s69 1 2) 1 Z true (s69 1 3) (s69 126 2) (s69 127) ((s0 1 3, s0 126 2, i4_65) :: st) := by
      rw [G108, N108, Q108.1, Q108.2]
      exact hz.open_ (by omega) v65_1.2 v65_1.1 (by omega) (by omega) (by omega)
    refine x_aload_n hx hb hl 0 rfl dX9_readStep_111 rfl ?_
    refine x_iload_n hx hb hl 1 rfl dX9_readStep_112 rfl ?_
    refine x_iconst hx hb dX9_readStep_113 ?_
    refine x_iadd hx hb dX9_readStep_114 ?_
    refine x_goi (x_runV (As := [.int (xJ (q + 1))]) hx hb hml hown hT hE hW hl.1 (Or.inl (by decide)) (so_126 h0 g _) rfl cf_X9_readSteps wq721 wq29 wq719 (c_X9_readStepsW1 l D g T h0 s69 hW.2.1 (q + 1) (by omega) Z ((s0 1 3, s0 126 2, i4_65) :: st) (by omega) (by show st.length + 1 = _; omega) (by omega) (O108) q70) ⟨rfl, rfl, ⟨by decide, by decide⟩, ⟨by decide, by decide⟩⟩ rfl rfl (Nat.le_of_ble_eq_true rfl) dX9_readStep_115) hW (fun x76 s77 H locs rx76 hp78 hW => ?_)
    obtain ⟨fs77, hp78⟩ := hp78
    have hF79 := hF75.call fs77 (fun k h => by omega)
    have ghp78 := hp78.2
    have H115 := ghp78
    rw [G108, N108] at H115
    obtain ⟨z9, ez9⟩ : ∃ z : Int, z = s77 126 2 := ⟨_, rfl⟩
    obtain ⟨K9, eK9⟩ : ∃ K, K = s77 127 := ⟨_, rfl⟩
    obtain ⟨p9, ep9⟩ : ∃ p : Int, p = s77 1 3 := ⟨_, rfl⟩
    rw [← ez9, ← eK9, ← ep9] at H115
    have X115 : zch (s0 2) (s0 1 2) p9 ≠ -1 → p9 < s0 1 2 := zch_lt
    have G115 : s77 2 = s0 2 := hF79 2 (by omega)
    have N115 : s77 1 2 = s0 1 2 := (hp78.1.2.2.1.trans q72)
    refine x_if_eq (tgt := 133) hx hb rx76 dX9_readStep_118 (by decide) (fun c80 => ?_) (fun c80 => ?_)
    · skip
      refine x_iconst hx hb dX9_readStep_133 ?_
      rw [eQ]
      exact x_zret hx hb hr hlk hW (by omega) ⟨hF79, ⟨hp78.1.1, (hp78.1.2.1.trans q71), (hp78.1.2.2.1.trans q72), trivial⟩, Or.inr ⟨by omega, (H115.resolve_left (fun q => by omega)).2.1, by omega⟩⟩ dX9_readStep_134
    refine x_aload_n hx hb hl 0 rfl dX9_readStep_121 rfl ?_
    refine x_get (j := 0) (v := .ref (h0 + 1)) hx hb hown hT hE hW cls_X9 (Or.inl (by decide)) (so_126 h0 g _) (by decide) rfl wq307 dX9_readStep_122 ?_
    refine x_bipush hx hb dX9_readStep_125 (by decide) ?_
    refine x_goi (x_runVN (As := [.int (xJ 41)]) hx hb hml hown hT hE hW hl.1 (Or.inl (by decide)) (so_1 h0 g _) rfl cf_X8_passes wq598 wq6 wn729 (c_X8_passesM l D g T h0 s77 hW.2.1 41 (by decide) (by omega) (by omega) hp78.1.1) ⟨rfl, rfl, ⟨by decide, by decide⟩, ⟨by decide, by decide⟩⟩ rfl rfl (Nat.le_of_ble_eq_true rfl) dX9_readStep_127) hW (fun x81 s82 H locs rx81 hp83 hW => ?_)
    obtain ⟨fs82, hp83⟩ := hp83
    have hF84 := hF79.call fs82 (fun k h => by omega)
    have ghp83 := hp83.2
    have P127 := ghp83
    rw [G115, N115, ← ep9] at P127
    have Q127 : s82 126 2 = z9 ∧ s82 127 = K9 := by rw [fs82 126 (by omega), fs82 127 (by omega)]; exact ⟨ez9.symm, eK9.symm⟩
    have E127 : s82 1 3 = p9 + 1 := by omega
    refine x_if_ne (tgt := 135) hx hb rx81 dX9_readStep_130 (by decide) (fun c85 => ?_) (fun c85 => False.elim (by omega))
    refine x_aload_n hx hb hl 0 rfl dX9_readStep_135 rfl ?_
    refine x_iload_n hx hb hl 3 rfl dX9_readStep_136 rfl ?_
    refine x_iload hx hb hl 4 rfl dX9_readStep_137 ?_
    refine x_iconst hx hb dX9_readStep_139 ?_
    refine x_isub hx hb dX9_readStep_140 ?_
    refine x_goi (x_runV (As := [.int (xJ x2), .int (xJ (i4_65 - 1))]) hx hb hml hown hT hE hW hl.1 (Or.inl (by decide)) (so_126 h0 g _) rfl cf_X9_repeat wq732 wq31 wq730 (c_X9_repeatW l D g T h0 s82 hW.2.1 x2 rx2 (i4_65 - 1) (by omega) (by have y := IC.y hp83.1.1; omega) (by omega) hp83.1.1) ⟨rfl, rfl, ⟨by decide, by decide⟩, ⟨by decide, by decide⟩⟩ rfl rfl (Nat.le_of_ble_eq_true rfl) dX9_readStep_141) hW (fun x86 s87 H locs rx86 hp88 hW => ?_)
    obtain ⟨fs87, hp88⟩ := hp88
    have hF89 := hF84.call fs87 (fun k h => by omega)
    have q90 : s87 1 1 = s0 1 1 := (congrFun (fs87 _ (by omega)) _).trans (hp83.1.2.1.trans (hp78.1.2.1.trans q71))
    have q91 : s87 1 2 = s0 1 2 := (congrFun (fs87 _ (by omega)) _).trans (hp83.1.2.2.1.trans (hp78.1.2.2.1.trans q72))
    have ghp88 := hp88.2
    have R141 := ghp88
    rw [Q127.1, Q127.2, show x2 = s0 126 2 from by omega] at R141
    have E141 : s87 1 3 = p9 + 1 := (congrFun (fs87 1 (by omega)) 3).trans E127
    have V141 := (H115.resolve_right (fun q => by omega)).2
    have m141 : 0 ≤ (i4_65 - 1) * (z9 - s0 126 2) := Int.mul_nonneg (by omega) (by omega)
    refine x_if_ne (tgt := 160) hx hb rx86 dX9_readStep_144 (by decide) (fun c92 => ?_) (fun c92 => ?_)
    · skip
      refine x_iconst hx hb dX9_readStep_160 ?_
      refine lv_goto (tgt := 165) hx hb dX9_readStep_161 (by decide) ?_
      rw [eQ]
      exact x_zret hx hb hr hlk hW (by omega) ⟨hF89, ⟨hp88.1.1, q90, q91, trivial⟩, by first | (have z := V141.1.pop6 (by omega) (by omega) (by omega); rw [z]; exact Or.inr ⟨by omega, (by show (-6000 - _ : Int) ≠ 0; omega), (by show _ = (-6000 - _ : Int); omega)⟩) | exact Or.inl ⟨by omega, V141.1.pop (by omega) (by omega) (by omega) (by omega) (by omega) (R141.resolve_right (fun q => by omega)).2.2.2, by omega, by omega, by omega⟩⟩ dX9_readStep_165
    refine x_aload_n hx hb hl 0 rfl dX9_readStep_147 rfl ?_
    refine x_get (j := 0) (v := .ref (h0 + 1)) hx hb hown hT hE hW cls_X9 (Or.inl (by decide)) (so_126 h0 g _) (by decide) rfl wq307 dX9_readStep_148 ?_
    refine x_bipush hx hb dX9_readStep_151 (by decide) ?_
    refine x_iload_n hx hb hl 2 rfl dX9_readStep_153 rfl ?_
    refine x_goi (x_runVN (As := [.int (xJ 6), .int (xJ x1)]) hx hb hml hown hT hE hW hl.1 (Or.inl (by decide)) (so_1 h0 g _) rfl cf_X8_fails wq588 wq5 wn728 (c_X8_failsM l D g T h0 s87 hW.2.1 6 (by decide) x1 rx1 (by omega) hp88.1.1) ⟨rfl, rfl, ⟨by decide, by decide⟩, ⟨by decide, by decide⟩⟩ rfl rfl (Nat.le_of_ble_eq_true rfl) dX9_readStep_154) hW (fun x93 s94 H locs rx93 hp95 hW => ?_)
    obtain ⟨fs94, hp95⟩ := hp95
    have hF96 := hF89.call fs94 (fun k h => by omega)
    have ghp95 := hp95.2
    refine x_if_eq (tgt := 164) hx hb rx93 dX9_readStep_157 (by decide) (fun c97 => ?_) (fun c97 => False.elim (by omega))
    refine x_iconst hx hb dX9_readStep_164 ?_
    rw [eQ]
    exact x_zret hx hb hr hlk hW (by omega) ⟨hF96, ⟨hp95.1.1, (hp95.1.2.1.trans q90), (hp95.1.2.2.1.trans q91), trivial⟩, by first | (have z := V141.1.pop6 (by omega) (by omega) (by omega); rw [z]; exact Or.inr ⟨by omega, (by show (-6000 - _ : Int) ≠ 0; omega), (by show _ = (-6000 - _ : Int); omega)⟩) | exact Or.inl ⟨by omega, V141.1.pop (by omega) (by omega) (by omega) (by omega) (by omega) (R141.resolve_right (fun q => by omega)).2.2.2, by omega, by omega, by omega⟩⟩ dX9_readStep_165
  refine x_icmp_lt (tgt := 65) hx hb rx3 (by decide) dX9_readStep_25 (by decide) (fun c98 => ?_) (fun c98 => ?_)
  · skip
    exact J65 1 s0 H locs ls (by decide) hF p0 k1_1 k1_2 k126_2 (by omega) (by omega) (by omega) (by first | exact ⟨rfl, rfl⟩ | (rw [es0, xU_k _ _ _ (by omega), xU_k _ _ _ (by omega)]; exact ⟨rfl, rfl⟩)) hW (lv_sub hl [3, 4, 2, 1, 0] rfl)
  refine x_aload_n hx hb hl 3 rfl dX9_readStep_28 rfl ?_
  refine x_get (j := 0) (v := .ref (h0 + 1)) hx hb hown hT hE hW cls_X9 (Or.inl (by decide)) (so_126 h0 g _) (by decide) rfl wq307 dX9_readStep_29 ?_
  refine x_goi (x_runVN (As := []) hx hb hml hown hT hE hW hl.1 (Or.inl (by decide)) (so_1 h0 g _) rfl cf_X8_sign wq581 wq4 wn727 (c_X8_sign l D g T h0 s0 hW.2.1 p0) ⟨rfl, rfl, ⟨by decide, by decide⟩, ⟨by decide, by decide⟩⟩ rfl rfl (Nat.le_of_ble_eq_true rfl) dX9_readStep_32) hW (fun x99 s100 H locs rx99 hp101 hW => ?_)
  obtain ⟨es100, hp101⟩ := hp101
  subst es100
  have ghp101 := hp101
  have C32 : x99 = zch (s0 2) (s0 1 2) (s0 1 3) := zch_i (by omega)
  refine x_bipush hx hb dX9_readStep_35 (by decide) ?_
  refine x_icmp_gt (tgt := 65) hx hb rx99 (by decide) dX9_readStep_37 (by decide) (fun c102 => ?_) (fun c102 => ?_)
  · skip
    exact J65 1 s0 H locs ls (by decide) hF p0 k1_1 k1_2 k126_2 (by omega) (by omega) (by omega) (by first | exact ⟨rfl, rfl⟩ | (rw [es0, xU_k _ _ _ (by omega), xU_k _ _ _ (by omega)]; exact ⟨rfl, rfl⟩)) hW (lv_sub hl [3, 4, 2, 1, 0] rfl)
  refine x_aload_n hx hb hl 3 rfl dX9_readStep_40 rfl ?_
  refine x_get (j := 0) (v := .ref (h0 + 1)) hx hb hown hT hE hW cls_X9 (Or.inl (by decide)) (so_126 h0 g _) (by decide) rfl wq307 dX9_readStep_41 ?_
  refine x_goi (x_runVN (As := []) hx hb hml hown hT hE hW hl.1 (Or.inl (by decide)) (so_1 h0 g _) rfl cf_X8_sign wq581 wq4 wn727 (c_X8_sign l D g T h0 s0 hW.2.1 p0) ⟨rfl, rfl, ⟨by decide, by decide⟩, ⟨by decide, by decide⟩⟩ rfl rfl (Nat.le_of_ble_eq_true rfl) dX9_readStep_44) hW (fun x103 s104 H locs rx103 hp105 hW => ?_)
  obtain ⟨es104, hp105⟩ := hp105
  subst es104
  have ghp105 := hp105
  have C44 : x103 = zch (s0 2) (s0 1 2) (s0 1 3) := zch_i (by omega)
  refine x_bipush hx hb dX9_readStep_47 (by decide) ?_
  refine x_isub hx hb dX9_readStep_49 ?_
  refine x_nm (fun x106 ex106 => ?_)
  refine lv_istore (lv' := [(4, .int (xJ x106)), (3, .int (xJ x2)), (2, .int (xJ x1)), (0, .ref (h0 + 126)), (1, .int (xJ q))]) hx hb dX9_readStep_50 hl (by decide) rfl (fun ls hl => ?_)
  refine x_aload_n hx hb hl 3 rfl dX9_readStep_52 rfl ?_
  refine x_get (j := 0) (v := .ref (h0 + 1)) hx hb hown hT hE hW cls_X9 (Or.inl (by decide)) (so_126 h0 g _) (by decide) rfl wq307 dX9_readStep_53 ?_
  refine lv_dup hx hb dX9_readStep_56 rfl ?_
  refine x_getN (j := 3) (v := .int (xJ (s0 1 3))) hx hb hown hT hE hW cls_X8 (Or.inl (by decide)) (so_1 h0 g _) (by decide) rfl wn202 dX9_readStep_57 ?_
  refine x_rd hW (fun x107 ex107 rx107 => ?_)
  have fx107 : x107 = s0 1 3 := ex107.trans k1_3
  refine x_iconst hx hb dX9_readStep_60 ?_
  refine x_iadd hx hb dX9_readStep_61 ?_
  refine x_putN (j := 3) hx hb hown hT hE hW cls_X8 (by decide) (fun σ => so_1 h0 g σ) (by decide) (st_X8_3 h0 s0 1 (x107 + 1)) (ln_X8_3 h0 _ _) wn202 rfl rfl rfl (by omega) dX9_readStep_62 (fun H locs s108 es108 hW => ?_)
  have q109 : IC s108 := by rw [es108]; exact IC_1 p0 (by omega)
  have q110 : s108 1 1 = s0 1 1 := (show s108 1 1 = s0 1 1 from by rw [es108, xU_j _ _ (by decide)]).trans k1_1
  have q111 : s108 1 2 = s0 1 2 := (show s108 1 2 = s0 1 2 from by rw [es108, xU_j _ _ (by decide)]).trans k1_2
  have q112 : s108 1 3 = (x107 + 1) := by rw [es108, xU_s]
  have q113 : s108 126 2 = s0 126 2 := (show s108 126 2 = s0 126 2 from by rw [es108, xU_k _ _ _ (by omega)]).trans k126_2
  have hF114 := hF.put es108 (by omega)
  exact J65 x106 s108 H locs ls (by omega) hF114 q109 q110 q111 q113 (by omega) (by omega) (by omega) (by first | exact ⟨rfl, rfl⟩ | (rw [es108, xU_k _ _ _ (by omega), xU_k _ _ _ (by omega)]; exact ⟨rfl, rfl⟩)) hW (lv_sub hl [3, 4, 2, 1, 0] rfl)
set_option maxHeartbeats 4000000 in
set_option maxRecDepth 100000 in
theorem c_X9_readStepsW0 (l : Launch) (D : va_G) (g : xG) (T : Nat × Nat × Nat) (h0 : Nat) (s0 : xS) (hσ : xRR s0) (q : Int) (rq : xR q) (Z : Int × Int × (Int → Int)) (st : List (Int × Int × Int)) (hq : q = 0) (hst : st.length = 0) (hat : 0 ≤ s0 1 3 ∧ s0 1 3 ≤ s0 1 2 ∧ s0 1 2 ≤ 80) (hz : zWS (s0 2) (s0 1 2) 1 Z true (s0 1 3) (s0 126 2) (s0 127) st) (p0 : IC s0) : Met l yX9_readSteps (xws yX9_readSteps cX9_readSteps 4 (some .boolean)) { frames := 6, cells := 0, slots := 0, locals := 145 } (xP [.ref (h0 + 126), .int (xJ q)] D g T h0 s0) (xQi D g h0 (fun r τ => xFr (fun k => k = 1 ∨ k = 126 ∨ k = 127) s0 τ ∧ (((IC τ) ∧ (τ 1 1 = s0 1 1) ∧ (τ 1 2 = s0 1 2) ∧ True) ∧ ((r = 1 ∧ zWS (s0 2) (s0 1 2) 1 Z false (τ 1 3) (τ 126 2) (τ 127) st ∧ s0 1 3 + 1 ≤ τ 1 3 ∧ τ 1 3 ≤ s0 1 2 ∧ s0 126 2 < τ 126 2 ∧ τ 1 3 = s0 1 2) ∨ (r = 0 ∧ Z.1 ≠ 0 ∧ τ 1 4 = Z.1))))) 0 0 (xA h0) := by
  refine x_met hσ (by decide) (Nat.le_of_ble_eq_true rfl) ?_
  intro p e s m args below meth c hx hb hr hml hown hT hlk hnm hE hW ls hl
  have hl : lv_has ls 4 [(0, .ref (h0 + 126)), (1, .int (xJ q))] := hl
  obtain ⟨Q, eQ⟩ : ∃ Q, Q = MQ below (xQi D g h0 (fun r τ => xFr (fun k => k = 1 ∨ k = 126 ∨ k = 127) s0 τ ∧ (((IC τ) ∧ (τ 1 1 = s0 1 1) ∧ (τ 1 2 = s0 1 2) ∧ True) ∧ ((r = 1 ∧ zWS (s0 2) (s0 1 2) 1 Z false (τ 1 3) (τ 126 2) (τ 127) st ∧ s0 1 3 + 1 ≤ τ 1 3 ∧ τ 1 3 ≤ s0 1 2 ∧ s0 126 2 < τ 126 2 ∧ τ 1 3 = s0 1 2) ∨ (r = 0 ∧ Z.1 ≠ 0 ∧ τ 1 4 = Z.1))))) args s 0 0 (xA h0) := ⟨_, rfl⟩
  rw [← eQ]
  generalize hHe : ([] : List Loc) = locs at hW ⊢
  obtain ⟨H, eH⟩ : ∃ H, H = s.heap := ⟨_, rfl⟩
  rw [← eH] at hW ⊢
  have hF : xFr (fun k => k = 1 ∨ k = 126 ∨ k = 127) s0 s0 := xFr.rf
  have k1_1 : s0 1 1 = s0 1 1 := rfl
  have k1_2 : s0 1 2 = s0 1 2 := rfl
  refine x_iload_n hx hb hl 1 rfl dX9_readSteps_0 rfl ?_
  refine x_if_ne (tgt := 8) hx hb rq dX9_readSteps_1 (by decide) (fun c1 => False.elim (by omega)) (fun c1 => ?_)
  refine x_iconst hx hb dX9_readSteps_4 ?_
  refine lv_goto (tgt := 10) hx hb dX9_readSteps_5 (by decide) ?_
  refine lv_istore_n (lv' := [(2, .int (xJ (-1))), (0, .ref (h0 + 126)), (1, .int (xJ q))]) hx hb dX9_readSteps_10 rfl hl (by decide) rfl (fun ls hl => ?_)
  refine x_iconst hx hb dX9_readSteps_11 ?_
  refine lv_istore_n (lv' := [(3, .int (xJ 0)), (2, .int (xJ (-1))), (0, .ref (h0 + 126)), (1, .int (xJ q))]) hx hb dX9_readSteps_12 rfl hl (by decide) rfl (fun ls hl => ?_)
  have L13 : ∀ (fu : Nat) (i3_13 : Int) (s_13 : xS) (H : Heap) (locs : List Loc) (ls : Array Slot), (xR i3_13) → (xFr (fun k => k = 1 ∨ k = 126 ∨ k = 127) s0 s_13) → (IC s_13) → (s_13 1 1 = s0 1 1) → (s_13 1 2 = s0 1 2) → (0 ≤ i3_13 ∧ i3_13 ≤ s_13 1 3 - s0 1 3 ∧ s_13 1 3 ≤ s0 1 2 ∧ s0 126 2 + i3_13 ≤ s_13 126 2 ∧ (0 < i3_13 → s_13 1 3 < s0 1 2)) → (zWS (s0 2) (s0 1 2) 1 Z true (s_13 1 3) (s_13 126 2) (s_13 127) st) → (80 - i3_13).toNat < fu → xW D g h0 s H locs s_13 → lv_has ls 4 [(0, .ref (h0 + 126)), (1, .int (xJ q)), (2, .int (xJ (-1))), (3, .int (xJ i3_13))] → W p l e { frames := 6, cells := 0, slots := 0, locals := 145 } s m args below meth c H locs 0 0 Q (F0 m 13 ls []) := by
    intro fu
    induction fu with
    | zero => intro i3_13 s_13 H locs ls ri3_13 hF_13 q13_0 q13_1 q13_2 v13_0 v13_1 hm; exact absurd hm (Nat.not_lt_zero _)
    | succ fu ih13 =>
      intro i3_13 s_13 H locs ls ri3_13 hF_13 q13_0 q13_1 q13_2 v13_0 v13_1 hm hW hl
      refine x_iload_n hx hb hl 3 rfl dX9_readSteps_13 rfl ?_
      refine x_bipush hx hb dX9_readSteps_14 (by decide) ?_
      refine x_icmp_ge (tgt := 48) hx hb ri3_13 (by decide) dX9_readSteps_16 (by decide) (fun c2 => False.elim (by omega)) (fun c2 => ?_)
      refine x_aload_n hx hb hl 0 rfl dX9_readSteps_19 rfl ?_
      refine x_iload_n hx hb hl 1 rfl dX9_readSteps_20 rfl ?_
      refine x_goi (x_runV (As := [.int (xJ q)]) hx hb hml hown hT hE hW hl.1 (Or.inl (by decide)) (so_126 h0 g _) rfl cf_X9_readStep wq725 wq30 wq723 (c_X9_readStepW0 l D g T h0 s_13 hW.2.1 q rq Z st (by omega) (hst) (by omega) (by rw [hF_13 2 (by omega), show s_13 1 2 = s0 1 2 from by omega]; exact v13_1) q13_0) ⟨rfl, rfl, ⟨by decide, by decide⟩, ⟨by decide, by decide⟩⟩ rfl rfl (Nat.le_of_ble_eq_true rfl) dX9_readSteps_21) hW (fun x3 s4 H locs rx3 hp5 hW => ?_)
      obtain ⟨fs4, hp5⟩ := hp5
      have hF6 := hF_13.call fs4 (fun k h => by omega)
      have ghp5 := hp5.2
      have H21 := ghp5
      rw [hF_13 2 (by omega), show s_13 1 2 = s0 1 2 from by omega] at H21
      have G21 : s4 2 = s0 2 := hF6 2 (by omega)
      have Y21 : s4 1 3 < s0 1 2 → 0 ≤ s4 1 3 → 0 ≤ zch (s0 2) (s0 1 2) (s4 1 3) := fun h h9 => by
        have b := (IC.by_ hp5.1.1) (s4 1 3) (by omega) (by omega)
        rw [G21] at b
        rw [← zch_i (Or.inl ⟨h, rfl⟩)]
        exact b.1
      refine x_if_ne (tgt := 29) hx hb rx3 dX9_readSteps_24 (by decide) (fun c7 => ?_) (fun c7 => ?_)
      · skip
        refine x_aload_n hx hb hl 0 rfl dX9_readSteps_29 rfl ?_
        have D21 := (H21.resolve_right (fun q => by omega)).2
        refine x_get (j := 0) (v := .ref (h0 + 1)) hx hb hown hT hE hW cls_X9 (Or.inl (by decide)) (so_126 h0 g _) (by decide) rfl wq307 dX9_readSteps_30 ?_
        refine x_goi (x_runVN (As := []) hx hb hml hown hT hE hW hl.1 (Or.inl (by decide)) (so_1 h0 g _) rfl cf_X8_sign wq581 wq4 wn727 (c_X8_sign l D g T h0 s4 hW.2.1 hp5.1.1) ⟨rfl, rfl, ⟨by decide, by decide⟩, ⟨by decide, by decide⟩⟩ rfl rfl (Nat.le_of_ble_eq_true rfl) dX9_readSteps_33) hW (fun x8 s9 H locs rx8 hp10 hW => ?_)
        obtain ⟨es9, hp10⟩ := hp10
        subst es9
        have ghp10 := hp10
        have C33 : x8 = zch (s0 2) (s0 1 2) (s4 1 3) := zch_i (by have q := congrFun (hF6 2 (by omega)) (s4 1 3); omega)
        have X33 : zch (s0 2) (s0 1 2) (s4 1 3) ≠ -1 → s4 1 3 < s0 1 2 := zch_lt
        refine x_iload_n hx hb hl 2 rfl dX9_readSteps_36 rfl ?_
        refine x_icmp_ne (tgt := 42) hx hb rx8 (by decide) dX9_readSteps_37 (by decide) (fun c11 => ?_) (fun c11 => ?_)
        · skip
          refine x_iinc (lv' := [(3, .int (xJ (i3_13 + 1))), (0, .ref (h0 + 126)), (1, .int (xJ q)), (2, .int (xJ (-1)))]) hx hb hl 3 rfl dX9_readSteps_42 (by decide) rfl (fun ls hl => ?_)
          refine lv_goto (tgt := 13) hx hb dX9_readSteps_45 (by decide) ?_
          exact ih13 (i3_13 + 1) s4 H locs ls (by omega) hF6 hp5.1.1 (hp5.1.2.1.trans q13_1) (hp5.1.2.2.1.trans q13_2) (by omega) (D21.1.more0 hst (by omega)) (by omega) hW (lv_sub hl [1, 2, 3, 0] rfl)
        refine x_iconst hx hb dX9_readSteps_40 ?_
        rw [eQ]
        exact x_zret hx hb hr hlk hW (by omega) ⟨hF6, ⟨hp5.1.1, (hp5.1.2.1.trans q13_1), (hp5.1.2.2.1.trans q13_2), trivial⟩, Or.inl ⟨by omega, D21.1, by omega, by omega, by omega, by omega⟩⟩ dX9_readSteps_41
      refine x_iconst hx hb dX9_readSteps_27 ?_
      rw [eQ]
      exact x_zret hx hb hr hlk hW (by omega) ⟨hF6, ⟨hp5.1.1, (hp5.1.2.1.trans q13_1), (hp5.1.2.2.1.trans q13_2), trivial⟩, H21.elim (fun q => absurd q.1 (by omega)) (fun q => Or.inr ⟨by omega, q.2⟩)⟩ dX9_readSteps_28
  exact L13 ((80 - 0 : Int).toNat + 1) 0 s0 H locs ls (by decide) hF p0 k1_1 k1_2 (by omega) (hz) (Nat.lt_succ_self _) hW (lv_sub hl [2, 3, 1, 0] rfl)
set_option maxHeartbeats 4000000 in
set_option maxRecDepth 100000 in
theorem c_X9_readWholeW (l : Launch) (D : va_G) (g : xG) (T : Nat × Nat × Nat) (h0 : Nat) (s0 : xS) (hσ : xRR s0) (hat : s0 1 3 = 0 ∧ 0 ≤ s0 1 2 ∧ s0 1 2 ≤ 80) (p0 : IC s0) : Met l yX9_readWhole (xws yX9_readWhole cX9_readWhole 1 (some .boolean)) { frames := 7, cells := 0, slots := 0, locals := 168 } (xP [.ref (h0 + 126)] D g T h0 s0) (xQi D g h0 (fun r τ => xFr (fun k => k = 1 ∨ k = 126 ∨ k = 127) s0 τ ∧ (((IC τ) ∧ (τ 1 1 = s0 1 1) ∧ (τ 1 2 = s0 1 2) ∧ True) ∧ ((r = 1 ∧ (zws (s0 2) (s0 1 2) 1 (2 * s0 1 2 + 1).toNat true 0 0 (s0 127) []).1 = 0 ∧ τ 126 2 = (zws (s0 2) (s0 1 2) 1 (2 * s0 1 2 + 1).toNat true 0 0 (s0 127) []).2.1 ∧ τ 127 = (zws (s0 2) (s0 1 2) 1 (2 * s0 1 2 + 1).toNat true 0 0 (s0 127) []).2.2) ∨ (r = 0 ∧ (zws (s0 2) (s0 1 2) 1 (2 * s0 1 2 + 1).toNat true 0 0 (s0 127) []).1 ≠ 0 ∧ τ 1 4 = (zws (s0 2) (s0 1 2) 1 (2 * s0 1 2 + 1).toNat true 0 0 (s0 127) []).1))))) 0 0 (xA h0) := by
  refine x_met hσ (by decide) (Nat.le_of_ble_eq_true rfl) ?_
  intro p e s m args below meth c hx hb hr hml hown hT hlk hnm hE hW ls hl
  have hl : lv_has ls 1 [(0, .ref (h0 + 126))] := hl
  obtain ⟨Q, eQ⟩ : ∃ Q, Q = MQ below (xQi D g h0 (fun r τ => xFr (fun k => k = 1 ∨ k = 126 ∨ k = 127) s0 τ ∧ (((IC τ) ∧ (τ 1 1 = s0 1 1) ∧ (τ 1 2 = s0 1 2) ∧ True) ∧ ((r = 1 ∧ (zws (s0 2) (s0 1 2) 1 (2 * s0 1 2 + 1).toNat true 0 0 (s0 127) []).1 = 0 ∧ τ 126 2 = (zws (s0 2) (s0 1 2) 1 (2 * s0 1 2 + 1).toNat true 0 0 (s0 127) []).2.1 ∧ τ 127 = (zws (s0 2) (s0 1 2) 1 (2 * s0 1 2 + 1).toNat true 0 0 (s0 127) []).2.2) ∨ (r = 0 ∧ (zws (s0 2) (s0 1 2) 1 (2 * s0 1 2 + 1).toNat true 0 0 (s0 127) []).1 ≠ 0 ∧ τ 1 4 = (zws (s0 2) (s0 1 2) 1 (2 * s0 1 2 + 1).toNat true 0 0 (s0 127) []).1))))) args s 0 0 (xA h0) := ⟨_, rfl⟩
  rw [← eQ]
  generalize hHe : ([] : List Loc) = locs at hW ⊢
  obtain ⟨H, eH⟩ : ∃ H, H = s.heap := ⟨_, rfl⟩
  rw [← eH] at hW ⊢
  have hF : xFr (fun k => k = 1 ∨ k = 126 ∨ k = 127) s0 s0 := xFr.rf
  have k1_1 : s0 1 1 = s0 1 1 := rfl
  have k1_2 : s0 1 2 = s0 1 2 := rfl
  have k1_3 : s0 1 3 = s0 1 3 := rfl
  refine x_aload_n hx hb hl 0 rfl dX9_readWhole_0 rfl ?_
  refine x_iconst hx hb dX9_readWhole_1 ?_
  refine x_put (j := 2) hx hb hown hT hE hW cls_X9 (by decide) (fun σ => so_126 h0 g σ) (by decide) (st_X9_2 h0 s0 126 0) (ln_X9_2 h0 _ _) wq309 rfl rfl rfl (by decide) dX9_readWhole_2 (fun H locs s1 es1 hW => ?_)
  have q2 : IC s1 := by rw [es1]; exact IC_126 p0 (by omega)
  have q3 : s1 1 1 = s0 1 1 := (show s1 1 1 = s0 1 1 from by rw [es1, xU_k _ _ _ (by omega)]).trans k1_1
  have q4 : s1 1 2 = s0 1 2 := (show s1 1 2 = s0 1 2 from by rw [es1, xU_k _ _ _ (by omega)]).trans k1_2
  have q5 : s1 1 3 = s0 1 3 := (show s1 1 3 = s0 1 3 from by rw [es1, xU_k _ _ _ (by omega)]).trans k1_3
  have q6 : s1 126 2 = 0 := by rw [es1, xU_s]
  have hF7 := hF.put es1 (by omega)
  have G2 : s1 2 = s0 2 := hF7 2 (by omega)
  have N2 : s1 1 2 = s0 1 2 := q4
  have O2 : zWS (s1 2) (s1 1 2) 1 (zws (s0 2) (s0 1 2) 1 (2 * s0 1 2 + 1).toNat true 0 0 (s0 127) []) true (s1 1 3) (s1 126 2) (s1 127) [] := by
    rw [G2, N2, show s1 1 3 = 0 from by omega, show s1 126 2 = 0 from by omega, show s1 127 = s0 127 from by rw [es1, xU_k _ _ _ (by omega)]]
    exact zWS.new _ _ _ _ _
  refine x_aload_n hx hb hl 0 rfl dX9_readWhole_5 rfl ?_
  refine x_iconst hx hb dX9_readWhole_6 ?_
  refine x_goi (x_runV (As := [.int (xJ 0)]) hx hb hml hown hT hE hW hl.1 (Or.inl (by decide)) (so_126 h0 g _) rfl cf_X9_readSteps wq721 wq29 wq719 (c_X9_readStepsW0 l D g T h0 s1 hW.2.1 0 (by decide) (zws (s0 2) (s0 1 2) 1 (2 * s0 1 2 + 1).toNat true 0 0 (s0 127) []) ([] : List (Int × Int × Int)) (by omega) (rfl) (by omega) (O2) q2) ⟨rfl, rfl, ⟨by decide, by decide⟩, ⟨by decide, by decide⟩⟩ rfl rfl (Nat.le_of_ble_eq_true rfl) dX9_readWhole_7) hW (fun x8 s9 H locs rx8 hp10 hW => ?_)
  obtain ⟨fs9, hp10⟩ := hp10
  have hF11 := hF7.call fs9 (fun k h => by omega)
  have ghp10 := hp10.2
  have H7 := ghp10
  rw [G2, N2] at H7
  rw [eQ]
  exact x_zret hx hb hr hlk hW (by omega) ⟨hF11, ⟨hp10.1.1, (hp10.1.2.1.trans q3), (hp10.1.2.2.1.trans q4), trivial⟩, H7.elim (fun q => Or.inl (by have z := q.2.1.fin0 rfl q.2.2.2.2.2; rw [z]; exact ⟨q.1, rfl, rfl, rfl⟩)) Or.inr⟩ dX9_readWhole_10
set_option maxHeartbeats 4000000 in
set_option maxRecDepth 100000 in
theorem c_X10_walkW (l : Launch) (D : va_G) (g : xG) (T : Nat × Nat × Nat) (h0 : Nat) (s0 : xS) (hσ : xRR s0) (j : Int) (rj : xR j) (n : Int) (rn : xR n) (hz : 0 ≤ s0 999996 0 ∧ s0 999996 0 ≤ 900000) (p0 : IC s0) : Met l yX10_walk (xws yX10_walk cX10_walk 4 (some .int)) { frames := 8, cells := 1, slots := 60, locals := 188 } (xP [.ref (h0 + 0), .int (xJ j), .int (xJ n)] D g T h0 s0) (xQi D g h0 (fun r τ => xFr (fun k => 310 ≤ k ∨ k = 1 ∨ k = 126 ∨ k = 127 ∨ k = 138 ∨ k = 141) s0 τ ∧ (((IC τ) ∧ True) ∧ ((τ 999996 0 = s0 999996 0 ∨ τ 999996 0 = s0 999996 0 + 1) ∧ (((j < 0 ∨ 1 < j ∨ n < 1 ∨ 80 < n ∨ s0 1 1 < n) ∧ τ 1 1 = s0 1 1 ∧ r = -1) ∨ (¬ (j < 0 ∨ 1 < j ∨ n < 1 ∨ 80 < n ∨ s0 1 1 < n) ∧ τ 1 1 = 0 ∧ (((zws (s0 2) n 1 (2 * n + 1).toNat true 0 0 (s0 127) []).1 ≠ 0 ∧ r = (zws (s0 2) n 1 (2 * n + 1).toNat true 0 0 (s0 127) []).1) ∨ ((zws (s0 2) n 1 (2 * n + 1).toNat true 0 0 (s0 127) []).1 = 0 ∧ r = (zws (s0 2) n 1 (2 * n + 1).toNat true 0 0 (s0 127) []).2.1)))))))) 1 60 (xA h0) := by
  refine x_met hσ (by decide) (Nat.le_of_ble_eq_true rfl) ?_
  intro p e s m args below meth c hx hb hr hml hown hT hlk hnm hE hW ls hl
  have hl : lv_has ls 4 [(0, .ref (h0 + 0)), (1, .int (xJ j)), (2, .int (xJ n))] := hl
  obtain ⟨Q, eQ⟩ : ∃ Q, Q = MQ below (xQi D g h0 (fun r τ => xFr (fun k => 310 ≤ k ∨ k = 1 ∨ k = 126 ∨ k = 127 ∨ k = 138 ∨ k = 141) s0 τ ∧ (((IC τ) ∧ True) ∧ ((τ 999996 0 = s0 999996 0 ∨ τ 999996 0 = s0 999996 0 + 1) ∧ (((j < 0 ∨ 1 < j ∨ n < 1 ∨ 80 < n ∨ s0 1 1 < n) ∧ τ 1 1 = s0 1 1 ∧ r = -1) ∨ (¬ (j < 0 ∨ 1 < j ∨ n < 1 ∨ 80 < n ∨ s0 1 1 < n) ∧ τ 1 1 = 0 ∧ (((zws (s0 2) n 1 (2 * n + 1).toNat true 0 0 (s0 127) []).1 ≠ 0 ∧ r = (zws (s0 2) n 1 (2 * n + 1).toNat true 0 0 (s0 127) []).1) ∨ ((zws (s0 2) n 1 (2 * n + 1).toNat true 0 0 (s0 127) []).1 = 0 ∧ r = (zws (s0 2) n 1 (2 * n + 1).toNat true 0 0 (s0 127) []).2.1)))))))) args s 1 60 (xA h0) := ⟨_, rfl⟩
  rw [← eQ]
  generalize hHe : ([] : List Loc) = locs at hW ⊢
  obtain ⟨H, eH⟩ : ∃ H, H = s.heap := ⟨_, rfl⟩
  rw [← eH] at hW ⊢
  have hF : xFr (fun k => 310 ≤ k ∨ k = 1 ∨ k = 126 ∨ k = 127 ∨ k = 138 ∨ k = 141) s0 s0 := xFr.rf
  have k1_1 : s0 1 1 = s0 1 1 := rfl
  have k999996_0 : s0 999996 0 = s0 999996 0 := rfl
  refine x_iload_n hx hb hl 1 rfl dX10_walk_0 rfl ?_
  refine x_iconst hx hb dX10_walk_1 ?_
  refine x_iconst hx hb dX10_walk_2 ?_
  refine x_goi (x_runS (As := [.int (xJ j), .int (xJ 0), .int (xJ 1)]) hx hb hml hown hT hE hW hl.1 cf_X10_isIn wq562 wq561 (c_X10_isIn l D g T h0 s0 hW.2.1 j rj 0 (by decide) 1 (by decide)) ⟨rfl, rfl, ⟨by decide, by decide⟩, ⟨by decide, by decide⟩⟩ rfl rfl (Nat.le_of_ble_eq_true rfl) dX10_walk_3) hW (fun x1 s2 H locs rx1 hp3 hW => ?_)
  obtain ⟨es2, hp3⟩ := hp3
  subst es2
  have ghp3 := hp3
  refine x_if_eq (tgt := 30) hx hb rx1 dX10_walk_6 (by decide) (fun c4 => ?_) (fun c4 => ?_)
  · skip
    refine x_iconst hx hb dX10_walk_30 ?_
    refine W.widen (k := 1) (n := 60) (Nat.le_of_ble_eq_true rfl) (Nat.le_of_ble_eq_true rfl) ?_
    rw [eQ]
    exact x_iret hx hb hr hlk hW (by decide) ⟨hF, ⟨p0, trivial⟩, ⟨Or.inl (by omega), Or.inl ⟨by omega, by omega, by omega⟩⟩⟩ dX10_walk_31
  refine x_iload_n hx hb hl 2 rfl dX10_walk_9 rfl ?_
  refine x_iconst hx hb dX10_walk_10 ?_
  refine x_bipush hx hb dX10_walk_11 (by decide) ?_
  refine x_goi (x_runS (As := [.int (xJ n), .int (xJ 1), .int (xJ 80)]) hx hb hml hown hT hE hW hl.1 cf_X10_isIn wq562 wq561 (c_X10_isIn l D g T h0 s0 hW.2.1 n rn 1 (by decide) 80 (by decide)) ⟨rfl, rfl, ⟨by decide, by decide⟩, ⟨by decide, by decide⟩⟩ rfl rfl (Nat.le_of_ble_eq_true rfl) dX10_walk_13) hW (fun x5 s6 H locs rx5 hp7 hW => ?_)
  obtain ⟨es6, hp7⟩ := hp7
  subst es6
  have ghp7 := hp7
  refine x_if_eq (tgt := 30) hx hb rx5 dX10_walk_16 (by decide) (fun c8 => ?_) (fun c8 => ?_)
  · skip
    refine x_iconst hx hb dX10_walk_30 ?_
    refine W.widen (k := 1) (n := 60) (Nat.le_of_ble_eq_true rfl) (Nat.le_of_ble_eq_true rfl) ?_
    rw [eQ]
    exact x_iret hx hb hr hlk hW (by decide) ⟨hF, ⟨p0, trivial⟩, ⟨Or.inl (by omega), Or.inl ⟨by omega, by omega, by omega⟩⟩⟩ dX10_walk_31
  refine x_iload_n hx hb hl 2 rfl dX10_walk_19 rfl ?_
  refine x_aload_n hx hb hl 0 rfl dX10_walk_20 rfl ?_
  refine x_get (j := 0) (v := .ref (h0 + 1)) hx hb hown hT hE hW cls_X10 (Or.inl (by decide)) (so_0 h0 g _) (by decide) rfl wq512 dX10_walk_21 ?_
  refine x_getN (j := 1) (v := .int (xJ (s0 1 1))) hx hb hown hT hE hW cls_X8 (Or.inl (by decide)) (so_1 h0 g _) (by decide) rfl wn198 dX10_walk_24 ?_
  refine x_rd hW (fun x9 ex9 rx9 => ?_)
  have bx9 : 0 ≤ x9 ∧ x9 ≤ 260 := by rw [ex9]; exact IC.t p0
  have fx9 : x9 = s0 1 1 := ex9.trans k1_1
  refine x_icmp_le (tgt := 32) hx hb rn rx9 dX10_walk_27 (by decide) (fun c10 => ?_) (fun c10 => ?_)
  · skip
    refine x_aload_n hx hb hl 0 rfl dX10_walk_32 rfl ?_
    refine x_get (j := 0) (v := .ref (h0 + 1)) hx hb hown hT hE hW cls_X10 (Or.inl (by decide)) (so_0 h0 g _) (by decide) rfl wq512 dX10_walk_33 ?_
    refine x_iload_n hx hb hl 2 rfl dX10_walk_36 rfl ?_
    refine x_gov (x_runVN (As := [.int (xJ n)]) hx hb hml hown hT hE hW hl.1 (Or.inl (by decide)) (so_1 h0 g _) rfl cf_X8_open wq566 wq1 wn564 (c_X8_openM l D g T h0 s0 hW.2.1 n rn (by omega) p0) ⟨rfl, rfl, ⟨by decide, by decide⟩, ⟨by decide, by decide⟩⟩ rfl rfl (Nat.le_of_ble_eq_true rfl) dX10_walk_37) hW (fun s12 H locs hp13 hW => ?_)
    obtain ⟨fs12, hp13⟩ := hp13
    have hF14 := hF.call fs12 (fun k h => by omega)
    have q15 : s12 999996 0 = s0 999996 0 := (congrFun (fs12 _ (by omega)) _).trans k999996_0
    have ghp13 := hp13.2
    have O37 := ghp13
    have Q37 : s12 2 = s0 2 ∧ s12 127 = s0 127 := ⟨fs12 2 (by omega), fs12 127 (by omega)⟩
    refine x_aload_n hx hb hl 0 rfl dX10_walk_40 rfl ?_
    refine x_get (j := 4) (v := .ref (h0 + 126)) hx hb hown hT hE hW cls_X10 (Or.inl (by decide)) (so_0 h0 g _) (by decide) rfl wq516 dX10_walk_41 ?_
    refine x_goi (x_runVN (As := []) hx hb hml hown hT hE hW hl.1 (Or.inl (by decide)) (so_126 h0 g _) rfl cf_X9_readWhole wq717 wq28 wn715 (c_X9_readWholeW l D g T h0 s12 hW.2.1 (by omega) hp13.1.1) ⟨rfl, rfl, ⟨by decide, by decide⟩, ⟨by decide, by decide⟩⟩ rfl rfl (Nat.le_of_ble_eq_true rfl) dX10_walk_44) hW (fun x16 s17 H locs rx16 hp18 hW => ?_)
    obtain ⟨fs17, hp18⟩ := hp18
    have hF19 := hF14.call fs17 (fun k h => by omega)
    have q20 : s17 999996 0 = s0 999996 0 := (congrFun (fs17 _ (by omega)) _).trans q15
    have ghp18 := hp18.2
    have R44 := ghp18
    rw [Q37.1, O37.1, Q37.2] at R44
    refine lv_istore_n (lv' := [(3, .int (xJ x16)), (0, .ref (h0 + 0)), (1, .int (xJ j)), (2, .int (xJ n))]) hx hb dX10_walk_47 rfl hl (by decide) rfl (fun ls hl => ?_)
    refine x_aload_n hx hb hl 1 rfl dX10_walk_48 rfl ?_
    refine x_get (j := 0) (v := .ref (h0 + 1)) hx hb hown hT hE hW cls_X10 (Or.inl (by decide)) (so_0 h0 g _) (by decide) rfl wq512 dX10_walk_49 ?_
    refine x_gov (x_runVN (As := []) hx hb hml hown hT hE hW hl.1 (Or.inl (by decide)) (so_1 h0 g _) rfl cf_X8_drop wq607 wq7 wn605 (c_X8_dropM l D g T h0 s17 hW.2.1 hp18.1.1) ⟨rfl, rfl, ⟨by decide, by decide⟩, ⟨by decide, by decide⟩⟩ rfl rfl (Nat.le_of_ble_eq_true rfl) dX10_walk_52) hW (fun s22 H locs hp23 hW => ?_)
    obtain ⟨fs22, hp23⟩ := hp23
    have hF24 := hF19.call fs22 (fun k h => by omega)
    have q25 : s22 999996 0 = s0 999996 0 := (congrFun (fs22 _ (by omega)) _).trans q20
    have ghp23 := hp23.2
    have R52 : (x16 = 1 ∧ (zws (s0 2) n 1 (2 * n + 1).toNat true 0 0 (s0 127) []).1 = 0 ∧ s22 126 2 = (zws (s0 2) n 1 (2 * n + 1).toNat true 0 0 (s0 127) []).2.1) ∨ (x16 = 0 ∧ (zws (s0 2) n 1 (2 * n + 1).toNat true 0 0 (s0 127) []).1 ≠ 0 ∧ s22 1 4 = (zws (s0 2) n 1 (2 * n + 1).toNat true 0 0 (s0 127) []).1) := by rw [fs22 126 (by omega), hp23.1.2.2.1]; exact R44.elim (fun q => Or.inl ⟨q.1, q.2.1, q.2.2.1⟩) Or.inr
    obtain ⟨z52, ez52⟩ : ∃ z : Int, z = s22 126 2 := ⟨_, rfl⟩
    rw [← ez52] at R52
    refine x_iload_n hx hb hl 0 rfl dX10_walk_55 rfl ?_
    refine x_if_ne (tgt := 67) hx hb rx16 dX10_walk_56 (by decide) (fun c26 => ?_) (fun c26 => ?_)
    · skip
      refine x_aload_n hx hb hl 1 rfl dX10_walk_67 rfl ?_
      refine x_get (j := 8) (v := .ref (h0 + 136)) hx hb hown hT hE hW cls_X10 (Or.inl (by decide)) (so_0 h0 g _) (by decide) rfl wq520 dX10_walk_68 ?_
      refine x_iload_n hx hb hl 2 rfl dX10_walk_71 rfl ?_
      refine x_aload_n hx hb hl 1 rfl dX10_walk_72 rfl ?_
      refine x_get (j := 4) (v := .ref (h0 + 126)) hx hb hown hT hE hW cls_X10 (Or.inl (by decide)) (so_0 h0 g _) (by decide) rfl wq516 dX10_walk_73 ?_
      refine x_gor (x_runVN (As := []) hx hb hml hown hT hE hW hl.1 (Or.inl (by decide)) (so_126 h0 g _) rfl cf_X9_copyOfSteps wq739 wq32 wn737 (c_X9_copyOfSteps l D g T h0 s22 hW.2.1 (by omega) hp23.1.1) ⟨rfl, rfl, ⟨by decide, by decide⟩, ⟨by decide, by decide⟩⟩ rfl rfl (Nat.le_of_ble_eq_true rfl) dX10_walk_76) hW (fun x27 s28 H locs hp29 hW => ?_)
      obtain ⟨fs28, hp29⟩ := hp29
      have hF30 := hF24.call fs28 (fun k h => by omega)
      have q31 : s28 1 1 = 0 := (congrFun (fs28 _ (by omega)) _).trans hp23.1.2.1
      have q32 : s28 1 4 = s17 1 4 := (congrFun (fs28 _ (by omega)) _).trans hp23.1.2.2.1
      have ghp29 := hp29.2
      have E76 : s28 126 2 = z52 := (congrFun (fs28 126 (by omega)) 2).trans ez52.symm
      refine x_gov (x_runVN (As := [.int (xJ j), .ref (h0 + x27)]) hx hb hml hown hT hE hW hl.1 (Or.inl (by decide)) (so_136 h0 g _) rfl cf_X2_setWalk wq745 wq33 wn743 (c_X2_setWalk l D g T h0 s28 hW.2.1 136 xd_136 j rj ((x27 : Nat) : Int) (by omega) (ghp29.2.1) hp29.1.1) ⟨rfl, rfl, ⟨by decide, by decide⟩, ⟨by decide, by decide⟩⟩ rfl rfl (Nat.le_of_ble_eq_true rfl) dX10_walk_79) hW (fun s34 H locs hp35 hW => ?_)
      obtain ⟨fs34, hp35⟩ := hp35
      have hF36 := hF30.call fs34 (fun k h => by omega)
      have q37 : s34 1 1 = 0 := (congrFun (fs34 _ (by omega)) _).trans q31
      have q38 : s34 1 4 = s17 1 4 := (congrFun (fs34 _ (by omega)) _).trans q32
      have q39 : s34 999996 0 = s22 999996 0 + 1 := (congrFun (fs34 _ (by omega)) _).trans ghp29.2.2.1
      have ghp35 := hp35.2
      have E79 : s34 126 2 = z52 := (congrFun (fs34 126 (by omega)) 2).trans E76
      refine x_aload_n hx hb hl 1 rfl dX10_walk_82 rfl ?_
      refine x_get (j := 4) (v := .ref (h0 + 126)) hx hb hown hT hE hW cls_X10 (Or.inl (by decide)) (so_0 h0 g _) (by decide) rfl wq516 dX10_walk_83 ?_
      refine x_getN (j := 2) (v := .int (xJ (s34 126 2))) hx hb hown hT hE hW cls_X9 (Or.inl (by decide)) (so_126 h0 g _) (by decide) rfl wn310 dX10_walk_86 ?_
      refine x_rd hW (fun x40 ex40 rx40 => ?_)
      have bx40 : 0 ≤ x40 ∧ x40 ≤ 60 := by rw [ex40]; exact IC.y hp35.1.1
      refine W.widen (k := 1) (n := 60) (Nat.le_of_ble_eq_true rfl) (Nat.le_of_ble_eq_true rfl) ?_
      rw [eQ]
      exact x_iret hx hb hr hlk hW rx40 ⟨hF36, ⟨hp35.1.1, trivial⟩, ⟨by omega, Or.inr ⟨by omega, by omega, Or.inr ⟨(R52.resolve_right (fun q => by omega)).2.1, by omega⟩⟩⟩⟩ dX10_walk_89
    refine x_aload_n hx hb hl 1 rfl dX10_walk_59 rfl ?_
    refine x_get (j := 0) (v := .ref (h0 + 1)) hx hb hown hT hE hW cls_X10 (Or.inl (by decide)) (so_0 h0 g _) (by decide) rfl wq512 dX10_walk_60 ?_
    refine x_getN (j := 4) (v := .int (xJ (s22 1 4))) hx hb hown hT hE hW cls_X8 (Or.inl (by decide)) (so_1 h0 g _) (by decide) rfl wn205 dX10_walk_63 ?_
    refine x_rd hW (fun x41 ex41 rx41 => ?_)
    have fx41 : x41 = s17 1 4 := ex41.trans hp23.1.2.2.1
    refine W.widen (k := 1) (n := 60) (Nat.le_of_ble_eq_true rfl) (Nat.le_of_ble_eq_true rfl) ?_
    rw [eQ]
    exact x_iret hx hb hr hlk hW rx41 ⟨hF24, ⟨hp23.1.1, trivial⟩, ⟨by omega, Or.inr ⟨by omega, by omega, Or.inl ⟨(R52.resolve_left (fun q => by omega)).2.1, by omega⟩⟩⟩⟩ dX10_walk_66
  refine x_iconst hx hb dX10_walk_30 ?_
  refine W.widen (k := 1) (n := 60) (Nat.le_of_ble_eq_true rfl) (Nat.le_of_ble_eq_true rfl) ?_
  rw [eQ]
  exact x_iret hx hb hr hlk hW (by decide) ⟨hF, ⟨p0, trivial⟩, ⟨Or.inl (by omega), Or.inl ⟨by omega, by omega, by omega⟩⟩⟩ dX10_walk_31
