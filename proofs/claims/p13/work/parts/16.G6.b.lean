set_option maxHeartbeats 4000000 in
set_option maxRecDepth 100000 in
theorem c_X1_handOn (l : Launch) (D : va_G) (g : xG) (T : Nat × Nat × Nat) (h0 : Nat) (s0 : xS) (hσ : xRR s0) (a : Int) (ra : xR a) (p0 : IC s0) : Met l yX1_handOn (xws yX1_handOn cX1_handOn 6 none) { frames := 1, cells := 0, slots := 0, locals := 20 } (xP [.ref (h0 + 261), .int (xJ a)] D g T h0 s0) (xQv D g h0 (fun τ => xFr (fun k => k = 263 ∨ k = 264) s0 τ ∧ (((IC τ) ∧ True) ∧ (True)))) 0 0 (xA h0) := by
  refine x_met hσ (by decide) (Nat.le_of_ble_eq_true rfl) ?_
  intro p e s m args below meth c hx hb hr hml hown hT hlk hnm hE hW ls hl
  have hl : lv_has ls 6 [(0, .ref (h0 + 261)), (1, .int (xJ a))] := hl
  obtain ⟨Q, eQ⟩ : ∃ Q, Q = MQ below (xQv D g h0 (fun τ => xFr (fun k => k = 263 ∨ k = 264) s0 τ ∧ (((IC τ) ∧ True) ∧ (True)))) args s 0 0 (xA h0) := ⟨_, rfl⟩
  rw [← eQ]
  generalize hHe : ([] : List Loc) = locs at hW ⊢
  obtain ⟨H, eH⟩ : ∃ H, H = s.heap := ⟨_, rfl⟩
  rw [← eH] at hW ⊢
  have hF : xFr (fun k => k = 263 ∨ k = 264) s0 s0 := xFr.rf
  have k1_1 : s0 1 1 = s0 1 1 := rfl
  refine x_iload_n hx hb hl 1 rfl dX1_handOn_0 rfl ?_
  refine lv_istore_n (lv' := [(2, .int (xJ a)), (0, .ref (h0 + 261)), (1, .int (xJ a))]) hx hb dX1_handOn_1 rfl hl (by decide) rfl (fun ls hl => ?_)
  refine x_iconst hx hb dX1_handOn_2 ?_
  refine lv_istore_n (lv' := [(3, .int (xJ 0)), (2, .int (xJ a)), (0, .ref (h0 + 261)), (1, .int (xJ a))]) hx hb dX1_handOn_3 rfl hl (by decide) rfl (fun ls hl => ?_)
  have L4 : ∀ (fu : Nat) (i2_4 : Int) (i3_4 : Int) (s_4 : xS) (H : Heap) (locs : List Loc) (ls : Array Slot), (xR i2_4) → (xR i3_4) → (xFr (fun k => k = 263 ∨ k = 264) s0 s_4) → (IC s_4) → (s_4 1 1 = s0 1 1) → (0 ≤ i3_4) → (i3_4 ≤ 10) → (10 + 1 - i3_4).toNat < fu → xW D g h0 s H locs s_4 → lv_has ls 6 [(0, .ref (h0 + 261)), (2, .int (xJ i2_4)), (3, .int (xJ i3_4))] → W p l e { frames := 1, cells := 0, slots := 0, locals := 20 } s m args below meth c H locs 0 0 Q (F0 m 4 ls []) := by
    intro fu
    induction fu with
    | zero => intro i2_4 i3_4 s_4 H locs ls ri2_4 ri3_4 hF_4 q4_0 q4_1 v4_0 v4_1 hm; exact absurd hm (Nat.not_lt_zero _)
    | succ fu ih4 =>
      intro i2_4 i3_4 s_4 H locs ls ri2_4 ri3_4 hF_4 q4_0 q4_1 v4_0 v4_1 hm hW hl
      refine x_iload_n hx hb hl 2 rfl dX1_handOn_4 rfl ?_
      refine x_bipush hx hb dX1_handOn_5 (by decide) ?_
      refine x_icmp_ge (tgt := 72) hx hb ri3_4 (by decide) dX1_handOn_7 (by decide) (fun c1 => ?_) (fun c1 => ?_)
      · skip
        rw [eQ]
        exact x_vret hx hb hr hlk hW ⟨hF_4, ⟨q4_0, trivial⟩, trivial⟩ dX1_handOn_72
      refine x_iload_n hx hb hl 1 rfl dX1_handOn_10 rfl ?_
      refine x_goi (x_runSN (As := [.int (xJ i2_4)]) hx hb hml hown hT hE hW hl.1 cf_X6_isSpot wq831 wn970 (c_X6_isSpot l D g T h0 s_4 hW.2.1 i2_4 ri2_4) ⟨rfl, rfl, ⟨by decide, by decide⟩, ⟨by decide, by decide⟩⟩ rfl rfl (Nat.le_of_ble_eq_true rfl) dX1_handOn_11) hW (fun x2 s3 H locs rx2 hp4 hW => ?_)
      obtain ⟨es3, hp4⟩ := hp4
      subst es3
      have ghp4 := hp4
      refine x_if_eq (tgt := 72) hx hb rx2 dX1_handOn_14 (by decide) (fun c5 => ?_) (fun c5 => ?_)
      · skip
        rw [eQ]
        exact x_vret hx hb hr hlk hW ⟨hF_4, ⟨q4_0, trivial⟩, trivial⟩ dX1_handOn_72
      refine x_aload_n hx hb hl 0 rfl dX1_handOn_17 rfl ?_
      refine x_get (j := 4) (v := .ref (h0 + 265)) hx hb hown hT hE hW cls_X1 (Or.inl (by decide)) (so_261 h0 g _) (by decide) rfl wq497 dX1_handOn_18 ?_
      refine x_iload_n hx hb hl 1 rfl dX1_handOn_21 rfl ?_
      refine x_iald hx hb hE hW (Or.inl (by decide)) (sa_265 h0 g _) (by omega) (by decide) dX1_handOn_22 ?_
      refine x_rd hW (fun x6 ex6 rx6 => ?_)
      refine lv_istore (lv' := [(4, .int (xJ x6)), (0, .ref (h0 + 261)), (2, .int (xJ i2_4)), (3, .int (xJ i3_4))]) hx hb dX1_handOn_23 hl (by decide) rfl (fun ls hl => ?_)
      refine x_iload hx hb hl 0 rfl dX1_handOn_25 ?_
      refine x_if_lt (tgt := 37) hx hb rx6 dX1_handOn_27 (by decide) (fun c7 => ?_) (fun c7 => ?_)
      · skip
        rw [eQ]
        exact x_vret hx hb hr hlk hW ⟨hF_4, ⟨q4_0, trivial⟩, trivial⟩ dX1_handOn_37
      refine x_iload hx hb hl 0 rfl dX1_handOn_30 ?_
      refine x_bipush hx hb dX1_handOn_32 (by decide) ?_
      refine x_icmp_lt (tgt := 38) hx hb rx6 (by decide) dX1_handOn_34 (by decide) (fun c8 => ?_) (fun c8 => ?_)
      · skip
        refine x_aload_n hx hb hl 1 rfl dX1_handOn_38 rfl ?_
        refine x_get (j := 2) (v := .ref (h0 + 263)) hx hb hown hT hE hW cls_X1 (Or.inl (by decide)) (so_261 h0 g _) (by decide) rfl wq495 dX1_handOn_39 ?_
        refine x_iload hx hb hl 0 rfl dX1_handOn_42 ?_
        refine x_iald hx hb hE hW (Or.inl (by decide)) (sa_263 h0 g _) (by omega) (by decide) dX1_handOn_44 ?_
        refine x_rd hW (fun x9 ex9 rx9 => ?_)
        refine lv_istore (lv' := [(5, .int (xJ x9)), (4, .int (xJ x6)), (0, .ref (h0 + 261)), (2, .int (xJ i2_4)), (3, .int (xJ i3_4))]) hx hb dX1_handOn_45 hl (by decide) rfl (fun ls hl => ?_)
        refine x_aload_n hx hb hl 2 rfl dX1_handOn_47 rfl ?_
        refine x_get (j := 3) (v := .ref (h0 + 264)) hx hb hown hT hE hW cls_X1 (Or.inl (by decide)) (so_261 h0 g _) (by decide) rfl wq496 dX1_handOn_48 ?_
        refine x_iload_n hx hb hl 3 rfl dX1_handOn_51 rfl ?_
        refine x_iload hx hb hl 1 rfl dX1_handOn_52 ?_
        refine x_iast hx hb hE hW (by decide) (fun σ => sa_264 h0 g σ) (by omega) (by decide) rx6 dX1_handOn_54 (fun H locs s10 es10 hW => ?_)
        have q11 : IC s10 := by rw [es10]; exact IC_o (by decide) q4_0
        have q12 : s10 1 1 = s0 1 1 := (show s10 1 1 = s_4 1 1 from by rw [es10, xU_k _ _ _ (by omega)]).trans q4_1
        have hF13 := hF_4.put es10 (by omega)
        refine x_aload_n hx hb hl 2 rfl dX1_handOn_55 rfl ?_
        refine x_get (j := 2) (v := .ref (h0 + 263)) hx hb hown hT hE hW cls_X1 (Or.inl (by decide)) (so_261 h0 g _) (by decide) rfl wq495 dX1_handOn_56 ?_
        refine x_iload hx hb hl 1 rfl dX1_handOn_59 ?_
        refine x_iload_n hx hb hl 3 rfl dX1_handOn_61 rfl ?_
        refine x_iast hx hb hE hW (by decide) (fun σ => sa_263 h0 g σ) (by omega) (by decide) ri2_4 dX1_handOn_62 (fun H locs s14 es14 hW => ?_)
        have q15 : IC s14 := by rw [es14]; exact IC_o (by decide) q11
        have q16 : s14 1 1 = s0 1 1 := (show s14 1 1 = s10 1 1 from by rw [es14, xU_k _ _ _ (by omega)]).trans q12
        have hF17 := hF13.put es14 (by omega)
        refine x_iload hx hb hl 0 rfl dX1_handOn_63 ?_
        refine lv_istore_n (lv' := [(2, .int (xJ x9)), (5, .int (xJ x9)), (4, .int (xJ x6)), (0, .ref (h0 + 261)), (3, .int (xJ i3_4))]) hx hb dX1_handOn_65 rfl hl (by decide) rfl (fun ls hl => ?_)
        refine x_iinc (lv' := [(3, .int (xJ (i3_4 + 1))), (2, .int (xJ x9)), (5, .int (xJ x9)), (4, .int (xJ x6)), (0, .ref (h0 + 261))]) hx hb hl 4 rfl dX1_handOn_66 (by decide) rfl (fun ls hl => ?_)
        refine lv_goto (tgt := 4) hx hb dX1_handOn_69 (by decide) ?_
        exact ih4 x9 (i3_4 + 1) s14 H locs ls rx9 (by omega) hF17 q15 q16 (by omega) (by omega) (by omega) hW (lv_sub hl [4, 1, 0] rfl)
      rw [eQ]
      exact x_vret hx hb hr hlk hW ⟨hF_4, ⟨q4_0, trivial⟩, trivial⟩ dX1_handOn_37
  exact L4 ((10 + 1 - 0 : Int).toNat + 1) a 0 s0 H locs ls ra (by decide) hF p0 k1_1 (by omega) (by omega) (Nat.lt_succ_self _) hW (lv_sub hl [2, 1, 0] rfl)
set_option maxHeartbeats 4000000 in
set_option maxRecDepth 100000 in
theorem c_X3_howManyNeverShaded (l : Launch) (D : va_G) (g : xG) (T : Nat × Nat × Nat) (h0 : Nat) (s0 : xS) (hσ : xRR s0) (p0 : IC s0) : Met l yX3_howManyNeverShaded (xws yX3_howManyNeverShaded cX3_howManyNeverShaded 3 (some .int)) { frames := 1, cells := 0, slots := 0, locals := 21 } (xP [.ref (h0 + 156)] D g T h0 s0) (xQi D g h0 (fun r τ => s0 = τ ∧ (True))) 0 0 (xA h0) := by
  refine x_met hσ (by decide) (Nat.le_of_ble_eq_true rfl) ?_
  intro p e s m args below meth c hx hb hr hml hown hT hlk hnm hE hW ls hl
  have hl : lv_has ls 3 [(0, .ref (h0 + 156))] := hl
  obtain ⟨Q, eQ⟩ : ∃ Q, Q = MQ below (xQi D g h0 (fun r τ => s0 = τ ∧ (True))) args s 0 0 (xA h0) := ⟨_, rfl⟩
  rw [← eQ]
  generalize hHe : ([] : List Loc) = locs at hW ⊢
  obtain ⟨H, eH⟩ : ∃ H, H = s.heap := ⟨_, rfl⟩
  rw [← eH] at hW ⊢
  have k1_1 : s0 1 1 = s0 1 1 := rfl
  refine x_iconst hx hb dX3_howManyNeverShaded_0 ?_
  refine lv_istore_n (lv' := [(1, .int (xJ 0)), (0, .ref (h0 + 156))]) hx hb dX3_howManyNeverShaded_1 rfl hl (by decide) rfl (fun ls hl => ?_)
  refine x_iconst hx hb dX3_howManyNeverShaded_2 ?_
  refine lv_istore_n (lv' := [(2, .int (xJ 0)), (1, .int (xJ 0)), (0, .ref (h0 + 156))]) hx hb dX3_howManyNeverShaded_3 rfl hl (by decide) rfl (fun ls hl => ?_)
  have L4 : ∀ (fu : Nat) (i1_4 : Int) (i2_4 : Int) (H : Heap) (locs : List Loc) (ls : Array Slot), (xR i1_4) → (xR i2_4) → (0 ≤ i2_4) → (i2_4 ≤ 100) → (0 ≤ i1_4 ∧ i1_4 ≤ i2_4) → (100 + 1 - i2_4).toNat < fu → xW D g h0 s H locs s0 → lv_has ls 3 [(0, .ref (h0 + 156)), (1, .int (xJ i1_4)), (2, .int (xJ i2_4))] → W p l e { frames := 1, cells := 0, slots := 0, locals := 21 } s m args below meth c H locs 0 0 Q (F0 m 4 ls []) := by
    intro fu
    induction fu with
    | zero => intro i1_4 i2_4 H locs ls ri1_4 ri2_4 v4_0 v4_1 v4_2 hm; exact absurd hm (Nat.not_lt_zero _)
    | succ fu ih4 =>
      intro i1_4 i2_4 H locs ls ri1_4 ri2_4 v4_0 v4_1 v4_2 hm hW hl
      refine x_iload_n hx hb hl 2 rfl dX3_howManyNeverShaded_4 rfl ?_
      refine x_bipush hx hb dX3_howManyNeverShaded_5 (by decide) ?_
      refine x_icmp_ge (tgt := 48) hx hb ri2_4 (by decide) dX3_howManyNeverShaded_7 (by decide) (fun c1 => ?_) (fun c1 => ?_)
      · skip
        refine x_iload_n hx hb hl 1 rfl dX3_howManyNeverShaded_48 rfl ?_
        rw [eQ]
        exact x_iret hx hb hr hlk hW ri1_4 ⟨rfl, trivial⟩ dX3_howManyNeverShaded_49
      refine x_iload_n hx hb hl 1 rfl dX3_howManyNeverShaded_10 rfl ?_
      refine x_aload_n hx hb hl 0 rfl dX3_howManyNeverShaded_11 rfl ?_
      refine x_get (j := 0) (v := .ref (h0 + 128)) hx hb hown hT hE hW cls_X3 (Or.inl (by decide)) (so_156 h0 g _) (by decide) rfl wq450 dX3_howManyNeverShaded_12 ?_
      refine x_getN (j := 0) (v := .ref (h0 + 3)) hx hb hown hT hE hW cls_X0 (Or.inl (by decide)) (so_128 h0 g _) (by decide) rfl wn353 dX3_howManyNeverShaded_15 ?_
      refine x_iload_n hx hb hl 2 rfl dX3_howManyNeverShaded_18 rfl ?_
      refine x_goi (x_runVN (As := [.int (xJ i2_4)]) hx hb hml hown hT hE hW hl.1 (Or.inl (by decide)) (so_3 h0 g _) rfl cf_X6_kindAt wq619 wq10 wn1054 (c_X6_kindAt l D g T h0 s0 hW.2.1 i2_4 ri2_4 p0) ⟨rfl, rfl, ⟨by decide, by decide⟩, ⟨by decide, by decide⟩⟩ rfl rfl (Nat.le_of_ble_eq_true rfl) dX3_howManyNeverShaded_19) hW (fun x2 s3 H locs rx2 hp4 hW => ?_)
      obtain ⟨es3, hp4⟩ := hp4
      subst es3
      have ghp4 := hp4
      refine x_iconst hx hb dX3_howManyNeverShaded_22 ?_
      refine x_icmp_eq (tgt := 39) hx hb rx2 (by decide) dX3_howManyNeverShaded_23 (by decide) (fun c5 => ?_) (fun c5 => ?_)
      · skip
        refine x_iconst hx hb dX3_howManyNeverShaded_39 ?_
        refine x_iadd hx hb dX3_howManyNeverShaded_40 ?_
        refine x_nm (fun x6 ex6 => ?_)
        refine lv_istore_n (lv' := [(1, .int (xJ x6)), (0, .ref (h0 + 156)), (2, .int (xJ i2_4))]) hx hb dX3_howManyNeverShaded_41 rfl hl (by decide) rfl (fun ls hl => ?_)
        refine x_iinc (lv' := [(2, .int (xJ (i2_4 + 1))), (1, .int (xJ x6)), (0, .ref (h0 + 156))]) hx hb hl 2 rfl dX3_howManyNeverShaded_42 (by decide) rfl (fun ls hl => ?_)
        refine lv_goto (tgt := 4) hx hb dX3_howManyNeverShaded_45 (by decide) ?_
        exact ih4 x6 (i2_4 + 1) H locs ls (by omega) (by omega) (by omega) (by omega) (by omega) (by omega) hW (lv_sub hl [2, 1, 0] rfl)
      refine x_aload_n hx hb hl 0 rfl dX3_howManyNeverShaded_26 rfl ?_
      refine x_get (j := 7) (v := .ref (h0 + 226)) hx hb hown hT hE hW cls_X3 (Or.inl (by decide)) (so_156 h0 g _) (by decide) rfl wq459 dX3_howManyNeverShaded_27 ?_
      refine x_iload_n hx hb hl 2 rfl dX3_howManyNeverShaded_30 rfl ?_
      refine x_iald hx hb hE hW (Or.inl (by decide)) (sa_226 h0 g _) (by omega) (by decide) dX3_howManyNeverShaded_31 ?_
      refine x_rd hW (fun x7 ex7 rx7 => ?_)
      refine x_if_ne (tgt := 39) hx hb rx7 dX3_howManyNeverShaded_32 (by decide) (fun c8 => ?_) (fun c8 => ?_)
      · skip
        refine x_iconst hx hb dX3_howManyNeverShaded_39 ?_
        refine x_iadd hx hb dX3_howManyNeverShaded_40 ?_
        refine x_nm (fun x9 ex9 => ?_)
        refine lv_istore_n (lv' := [(1, .int (xJ x9)), (0, .ref (h0 + 156)), (2, .int (xJ i2_4))]) hx hb dX3_howManyNeverShaded_41 rfl hl (by decide) rfl (fun ls hl => ?_)
        refine x_iinc (lv' := [(2, .int (xJ (i2_4 + 1))), (1, .int (xJ x9)), (0, .ref (h0 + 156))]) hx hb hl 2 rfl dX3_howManyNeverShaded_42 (by decide) rfl (fun ls hl => ?_)
        refine lv_goto (tgt := 4) hx hb dX3_howManyNeverShaded_45 (by decide) ?_
        exact ih4 x9 (i2_4 + 1) H locs ls (by omega) (by omega) (by omega) (by omega) (by omega) (by omega) hW (lv_sub hl [2, 1, 0] rfl)
      refine x_iconst hx hb dX3_howManyNeverShaded_35 ?_
      refine lv_goto (tgt := 40) hx hb dX3_howManyNeverShaded_36 (by decide) ?_
      refine x_iadd hx hb dX3_howManyNeverShaded_40 ?_
      refine x_nm (fun x10 ex10 => ?_)
      refine lv_istore_n (lv' := [(1, .int (xJ x10)), (0, .ref (h0 + 156)), (2, .int (xJ i2_4))]) hx hb dX3_howManyNeverShaded_41 rfl hl (by decide) rfl (fun ls hl => ?_)
      refine x_iinc (lv' := [(2, .int (xJ (i2_4 + 1))), (1, .int (xJ x10)), (0, .ref (h0 + 156))]) hx hb hl 2 rfl dX3_howManyNeverShaded_42 (by decide) rfl (fun ls hl => ?_)
      refine lv_goto (tgt := 4) hx hb dX3_howManyNeverShaded_45 (by decide) ?_
      exact ih4 x10 (i2_4 + 1) H locs ls (by omega) (by omega) (by omega) (by omega) (by omega) (by omega) hW (lv_sub hl [2, 1, 0] rfl)
  exact L4 ((100 + 1 - 0 : Int).toNat + 1) 0 0 H locs ls (by decide) (by decide) (by omega) (by omega) (by omega) (Nat.lt_succ_self _) hW (lv_sub hl [2, 1, 0] rfl)
set_option maxHeartbeats 4000000 in
set_option maxRecDepth 100000 in
theorem c_X3_mostShaded (l : Launch) (D : va_G) (g : xG) (T : Nat × Nat × Nat) (h0 : Nat) (s0 : xS) (hσ : xRR s0) (p0 : IC s0) : Met l yX3_mostShaded (xws yX3_mostShaded cX3_mostShaded 3 (some .int)) { frames := 1, cells := 0, slots := 0, locals := 21 } (xP [.ref (h0 + 156)] D g T h0 s0) (xQi D g h0 (fun r τ => s0 = τ ∧ (-1 ≤ r ∧ r < 100))) 0 0 (xA h0) := by
  refine x_met hσ (by decide) (Nat.le_of_ble_eq_true rfl) ?_
  intro p e s m args below meth c hx hb hr hml hown hT hlk hnm hE hW ls hl
  have hl : lv_has ls 3 [(0, .ref (h0 + 156))] := hl
  obtain ⟨Q, eQ⟩ : ∃ Q, Q = MQ below (xQi D g h0 (fun r τ => s0 = τ ∧ (-1 ≤ r ∧ r < 100))) args s 0 0 (xA h0) := ⟨_, rfl⟩
  rw [← eQ]
  generalize hHe : ([] : List Loc) = locs at hW ⊢
  obtain ⟨H, eH⟩ : ∃ H, H = s.heap := ⟨_, rfl⟩
  rw [← eH] at hW ⊢
  have k1_1 : s0 1 1 = s0 1 1 := rfl
  refine x_iconst hx hb dX3_mostShaded_0 ?_
  refine lv_istore_n (lv' := [(1, .int (xJ (-1))), (0, .ref (h0 + 156))]) hx hb dX3_mostShaded_1 rfl hl (by decide) rfl (fun ls hl => ?_)
  refine x_iconst hx hb dX3_mostShaded_2 ?_
  refine lv_istore_n (lv' := [(2, .int (xJ 0)), (1, .int (xJ (-1))), (0, .ref (h0 + 156))]) hx hb dX3_mostShaded_3 rfl hl (by decide) rfl (fun ls hl => ?_)
  have L4 : ∀ (fu : Nat) (i1_4 : Int) (i2_4 : Int) (H : Heap) (locs : List Loc) (ls : Array Slot), (xR i1_4) → (xR i2_4) → (0 ≤ i2_4) → (i2_4 ≤ 100) → (-1 ≤ i1_4 ∧ i1_4 < 100) → (100 + 1 - i2_4).toNat < fu → xW D g h0 s H locs s0 → lv_has ls 3 [(0, .ref (h0 + 156)), (1, .int (xJ i1_4)), (2, .int (xJ i2_4))] → W p l e { frames := 1, cells := 0, slots := 0, locals := 21 } s m args below meth c H locs 0 0 Q (F0 m 4 ls []) := by
    intro fu
    induction fu with
    | zero => intro i1_4 i2_4 H locs ls ri1_4 ri2_4 v4_0 v4_1 v4_2 hm; exact absurd hm (Nat.not_lt_zero _)
    | succ fu ih4 =>
      intro i1_4 i2_4 H locs ls ri1_4 ri2_4 v4_0 v4_1 v4_2 hm hW hl
      refine x_iload_n hx hb hl 2 rfl dX3_mostShaded_4 rfl ?_
      refine x_bipush hx hb dX3_mostShaded_5 (by decide) ?_
      refine x_icmp_ge (tgt := 56) hx hb ri2_4 (by decide) dX3_mostShaded_7 (by decide) (fun c1 => ?_) (fun c1 => ?_)
      · skip
        refine x_iload_n hx hb hl 1 rfl dX3_mostShaded_56 rfl ?_
        rw [eQ]
        exact x_iret hx hb hr hlk hW ri1_4 ⟨rfl, by omega⟩ dX3_mostShaded_57
      refine x_aload_n hx hb hl 0 rfl dX3_mostShaded_10 rfl ?_
      refine x_get (j := 0) (v := .ref (h0 + 128)) hx hb hown hT hE hW cls_X3 (Or.inl (by decide)) (so_156 h0 g _) (by decide) rfl wq450 dX3_mostShaded_11 ?_
      refine x_getN (j := 0) (v := .ref (h0 + 3)) hx hb hown hT hE hW cls_X0 (Or.inl (by decide)) (so_128 h0 g _) (by decide) rfl wn353 dX3_mostShaded_14 ?_
      refine x_iload_n hx hb hl 2 rfl dX3_mostShaded_17 rfl ?_
      refine x_goi (x_runVN (As := [.int (xJ i2_4)]) hx hb hml hown hT hE hW hl.1 (Or.inl (by decide)) (so_3 h0 g _) rfl cf_X6_kindAt wq619 wq10 wn1054 (c_X6_kindAt l D g T h0 s0 hW.2.1 i2_4 ri2_4 p0) ⟨rfl, rfl, ⟨by decide, by decide⟩, ⟨by decide, by decide⟩⟩ rfl rfl (Nat.le_of_ble_eq_true rfl) dX3_mostShaded_18) hW (fun x2 s3 H locs rx2 hp4 hW => ?_)
      obtain ⟨es3, hp4⟩ := hp4
      subst es3
      have ghp4 := hp4
      refine x_iconst hx hb dX3_mostShaded_21 ?_
      refine x_icmp_ne (tgt := 28) hx hb rx2 (by decide) dX3_mostShaded_22 (by decide) (fun c5 => ?_) (fun c5 => ?_)
      · skip
        refine x_iload_n hx hb hl 1 rfl dX3_mostShaded_28 rfl ?_
        refine x_iconst hx hb dX3_mostShaded_29 ?_
        refine x_icmp_eq (tgt := 48) hx hb ri1_4 (by decide) dX3_mostShaded_30 (by decide) (fun c6 => ?_) (fun c6 => ?_)
        · skip
          refine x_iload_n hx hb hl 2 rfl dX3_mostShaded_48 rfl ?_
          refine lv_istore_n (lv' := [(1, .int (xJ i2_4)), (0, .ref (h0 + 156)), (2, .int (xJ i2_4))]) hx hb dX3_mostShaded_49 rfl hl (by decide) rfl (fun ls hl => ?_)
          refine x_iinc (lv' := [(2, .int (xJ (i2_4 + 1))), (1, .int (xJ i2_4)), (0, .ref (h0 + 156))]) hx hb hl 2 rfl dX3_mostShaded_50 (by decide) rfl (fun ls hl => ?_)
          refine lv_goto (tgt := 4) hx hb dX3_mostShaded_53 (by decide) ?_
          exact ih4 i2_4 (i2_4 + 1) H locs ls ri2_4 (by omega) (by omega) (by omega) (by omega) (by omega) hW (lv_sub hl [2, 1, 0] rfl)
        refine x_aload_n hx hb hl 0 rfl dX3_mostShaded_33 rfl ?_
        refine x_get (j := 7) (v := .ref (h0 + 226)) hx hb hown hT hE hW cls_X3 (Or.inl (by decide)) (so_156 h0 g _) (by decide) rfl wq459 dX3_mostShaded_34 ?_
        refine x_iload_n hx hb hl 2 rfl dX3_mostShaded_37 rfl ?_
        refine x_iald hx hb hE hW (Or.inl (by decide)) (sa_226 h0 g _) (by omega) (by decide) dX3_mostShaded_38 ?_
        refine x_rd hW (fun x7 ex7 rx7 => ?_)
        refine x_aload_n hx hb hl 0 rfl dX3_mostShaded_39 rfl ?_
        refine x_get (j := 7) (v := .ref (h0 + 226)) hx hb hown hT hE hW cls_X3 (Or.inl (by decide)) (so_156 h0 g _) (by decide) rfl wq459 dX3_mostShaded_40 ?_
        refine x_iload_n hx hb hl 1 rfl dX3_mostShaded_43 rfl ?_
        refine x_iald hx hb hE hW (Or.inl (by decide)) (sa_226 h0 g _) (by omega) (by decide) dX3_mostShaded_44 ?_
        refine x_rd hW (fun x8 ex8 rx8 => ?_)
        refine x_icmp_le (tgt := 50) hx hb rx7 rx8 dX3_mostShaded_45 (by decide) (fun c9 => ?_) (fun c9 => ?_)
        · skip
          refine x_iinc (lv' := [(2, .int (xJ (i2_4 + 1))), (0, .ref (h0 + 156)), (1, .int (xJ i1_4))]) hx hb hl 2 rfl dX3_mostShaded_50 (by decide) rfl (fun ls hl => ?_)
          refine lv_goto (tgt := 4) hx hb dX3_mostShaded_53 (by decide) ?_
          exact ih4 i1_4 (i2_4 + 1) H locs ls ri1_4 (by omega) (by omega) (by omega) (by omega) (by omega) hW (lv_sub hl [1, 2, 0] rfl)
        refine x_iload_n hx hb hl 2 rfl dX3_mostShaded_48 rfl ?_
        refine lv_istore_n (lv' := [(1, .int (xJ i2_4)), (0, .ref (h0 + 156)), (2, .int (xJ i2_4))]) hx hb dX3_mostShaded_49 rfl hl (by decide) rfl (fun ls hl => ?_)
        refine x_iinc (lv' := [(2, .int (xJ (i2_4 + 1))), (1, .int (xJ i2_4)), (0, .ref (h0 + 156))]) hx hb hl 2 rfl dX3_mostShaded_50 (by decide) rfl (fun ls hl => ?_)
        refine lv_goto (tgt := 4) hx hb dX3_mostShaded_53 (by decide) ?_
        exact ih4 i2_4 (i2_4 + 1) H locs ls ri2_4 (by omega) (by omega) (by omega) (by omega) (by omega) hW (lv_sub hl [2, 1, 0] rfl)
      refine lv_goto (tgt := 50) hx hb dX3_mostShaded_25 (by decide) ?_
      refine x_iinc (lv' := [(2, .int (xJ (i2_4 + 1))), (0, .ref (h0 + 156)), (1, .int (xJ i1_4))]) hx hb hl 2 rfl dX3_mostShaded_50 (by decide) rfl (fun ls hl => ?_)
      refine lv_goto (tgt := 4) hx hb dX3_mostShaded_53 (by decide) ?_
      exact ih4 i1_4 (i2_4 + 1) H locs ls ri1_4 (by omega) (by omega) (by omega) (by omega) (by omega) hW (lv_sub hl [1, 2, 0] rfl)
  exact L4 ((100 + 1 - 0 : Int).toNat + 1) (-1) 0 H locs ls (by decide) (by decide) (by omega) (by omega) (by omega) (Nat.lt_succ_self _) hW (lv_sub hl [2, 1, 0] rfl)
set_option maxHeartbeats 4000000 in
set_option maxRecDepth 100000 in
theorem c_X3_oneStepMore (l : Launch) (D : va_G) (g : xG) (T : Nat × Nat × Nat) (h0 : Nat) (s0 : xS) (hσ : xRR s0) (a : Int) (ra : xR a) (p0 : IC s0) : Met l yX3_oneStepMore (xws yX3_oneStepMore cX3_oneStepMore 5 (some .int)) { frames := 2, cells := 0, slots := 0, locals := 43 } (xP [.ref (h0 + 156), .int (xJ a)] D g T h0 s0) (xQi D g h0 (fun r τ => s0 = τ ∧ (True))) 0 0 (xA h0) := by
  refine x_met hσ (by decide) (Nat.le_of_ble_eq_true rfl) ?_
  intro p e s m args below meth c hx hb hr hml hown hT hlk hnm hE hW ls hl
  have hl : lv_has ls 5 [(0, .ref (h0 + 156)), (1, .int (xJ a))] := hl
  obtain ⟨Q, eQ⟩ : ∃ Q, Q = MQ below (xQi D g h0 (fun r τ => s0 = τ ∧ (True))) args s 0 0 (xA h0) := ⟨_, rfl⟩
  rw [← eQ]
  generalize hHe : ([] : List Loc) = locs at hW ⊢
  obtain ⟨H, eH⟩ : ∃ H, H = s.heap := ⟨_, rfl⟩
  rw [← eH] at hW ⊢
  have k1_1 : s0 1 1 = s0 1 1 := rfl
  refine lv_ldc (v := xJ 1000000) hx hb hown (hT _ wq991) dX3_oneStepMore_0 ?_
  refine lv_istore_n (lv' := [(2, .int (xJ 1000000)), (0, .ref (h0 + 156)), (1, .int (xJ a))]) hx hb dX3_oneStepMore_2 rfl hl (by decide) rfl (fun ls hl => ?_)
  refine x_aload_n hx hb hl 1 rfl dX3_oneStepMore_3 rfl ?_
  refine x_get (j := 0) (v := .ref (h0 + 128)) hx hb hown hT hE hW cls_X3 (Or.inl (by decide)) (so_156 h0 g _) (by decide) rfl wq450 dX3_oneStepMore_4 ?_
  refine x_getN (j := 0) (v := .ref (h0 + 3)) hx hb hown hT hE hW cls_X0 (Or.inl (by decide)) (so_128 h0 g _) (by decide) rfl wn353 dX3_oneStepMore_7 ?_
  refine x_iload_n hx hb hl 2 rfl dX3_oneStepMore_10 rfl ?_
  refine x_goi (x_runVN (As := [.int (xJ a)]) hx hb hml hown hT hE hW hl.1 (Or.inl (by decide)) (so_3 h0 g _) rfl cf_X6_isOpen wq615 wq9 wn1007 (c_X6_isOpen l D g T h0 s0 hW.2.1 a ra p0) ⟨rfl, rfl, ⟨by decide, by decide⟩, ⟨by decide, by decide⟩⟩ rfl rfl (Nat.le_of_ble_eq_true rfl) dX3_oneStepMore_11) hW (fun x1 s2 H locs rx1 hp3 hW => ?_)
  obtain ⟨es2, hp3⟩ := hp3
  subst es2
  have ghp3 := hp3
  refine x_if_ne (tgt := 19) hx hb rx1 dX3_oneStepMore_14 (by decide) (fun c4 => ?_) (fun c4 => ?_)
  · skip
    refine x_iconst hx hb dX3_oneStepMore_19 ?_
    refine lv_istore_n (lv' := [(3, .int (xJ 0)), (2, .int (xJ 1000000)), (0, .ref (h0 + 156)), (1, .int (xJ a))]) hx hb dX3_oneStepMore_20 rfl hl (by decide) rfl (fun ls hl => ?_)
    have L21 : ∀ (fu : Nat) (i2_21 : Int) (i3_21 : Int) (H : Heap) (locs : List Loc) (ls : Array Slot), (xR i2_21) → (xR i3_21) → (0 ≤ i3_21) → (8 - i3_21).toNat < fu → xW D g h0 s H locs s0 → lv_has ls 5 [(0, .ref (h0 + 156)), (1, .int (xJ a)), (2, .int (xJ i2_21)), (3, .int (xJ i3_21))] → W p l e { frames := 2, cells := 0, slots := 0, locals := 43 } s m args below meth c H locs 0 0 Q (F0 m 21 ls []) := by
      intro fu
      induction fu with
      | zero => intro i2_21 i3_21 H locs ls ri2_21 ri3_21 v21_0 hm; exact absurd hm (Nat.not_lt_zero _)
      | succ fu ih21 =>
        intro i2_21 i3_21 H locs ls ri2_21 ri3_21 v21_0 hm hW hl
        refine x_iload_n hx hb hl 3 rfl dX3_oneStepMore_21 rfl ?_
        refine x_bipush hx hb dX3_oneStepMore_22 (by decide) ?_
        refine x_icmp_ge (tgt := 62) hx hb ri3_21 (by decide) dX3_oneStepMore_24 (by decide) (fun c5 => ?_) (fun c5 => ?_)
        · skip
          refine x_iload_n hx hb hl 2 rfl dX3_oneStepMore_62 rfl ?_
          rw [eQ]
          exact x_iret hx hb hr hlk hW ri2_21 ⟨rfl, trivial⟩ dX3_oneStepMore_63
        refine x_iload_n hx hb hl 1 rfl dX3_oneStepMore_27 rfl ?_
        refine x_iload_n hx hb hl 3 rfl dX3_oneStepMore_28 rfl ?_
        refine x_goi (x_runSN (As := [.int (xJ a), .int (xJ i3_21)]) hx hb hml hown hT hE hW hl.1 cf_X6_beside wq784 wn1008 (c_X6_beside l D g T h0 s0 hW.2.1 a ra i3_21 ri3_21) ⟨rfl, rfl, ⟨by decide, by decide⟩, ⟨by decide, by decide⟩⟩ rfl rfl (Nat.le_of_ble_eq_true rfl) dX3_oneStepMore_29) hW (fun x6 s7 H locs rx6 hp8 hW => ?_)
        obtain ⟨es7, hp8⟩ := hp8
        subst es7
        have ghp8 := hp8
        refine lv_istore (lv' := [(4, .int (xJ x6)), (0, .ref (h0 + 156)), (1, .int (xJ a)), (2, .int (xJ i2_21)), (3, .int (xJ i3_21))]) hx hb dX3_oneStepMore_32 hl (by decide) rfl (fun ls hl => ?_)
        refine x_iload hx hb hl 0 rfl dX3_oneStepMore_34 ?_
        refine x_goi (x_runSN (As := [.int (xJ x6)]) hx hb hml hown hT hE hW hl.1 cf_X6_isSpot wq831 wn990 (c_X6_isSpot l D g T h0 s0 hW.2.1 x6 rx6) ⟨rfl, rfl, ⟨by decide, by decide⟩, ⟨by decide, by decide⟩⟩ rfl rfl (Nat.le_of_ble_eq_true rfl) dX3_oneStepMore_36) hW (fun x9 s10 H locs rx9 hp11 hW => ?_)
        obtain ⟨es10, hp11⟩ := hp11
        subst es10
        have ghp11 := hp11
        refine x_if_eq (tgt := 56) hx hb rx9 dX3_oneStepMore_39 (by decide) (fun c12 => ?_) (fun c12 => ?_)
        · skip
          refine x_iinc (lv' := [(3, .int (xJ (i3_21 + 2))), (4, .int (xJ x6)), (0, .ref (h0 + 156)), (1, .int (xJ a)), (2, .int (xJ i2_21))]) hx hb hl 4 rfl dX3_oneStepMore_56 (by decide) rfl (fun ls hl => ?_)
          refine lv_goto (tgt := 21) hx hb dX3_oneStepMore_59 (by decide) ?_
          exact ih21 i2_21 (i3_21 + 2) H locs ls ri2_21 (by omega) (by omega) (by omega) hW (lv_sub hl [2, 3, 4, 0] rfl)
        refine x_iload_n hx hb hl 3 rfl dX3_oneStepMore_42 rfl ?_
        refine x_aload_n hx hb hl 1 rfl dX3_oneStepMore_43 rfl ?_
        refine x_get (j := 9) (v := .ref (h0 + 259)) hx hb hown hT hE hW cls_X3 (Or.inl (by decide)) (so_156 h0 g _) (by decide) rfl wq462 dX3_oneStepMore_44 ?_
        refine x_iload hx hb hl 0 rfl dX3_oneStepMore_47 ?_
        refine x_iald hx hb hE hW (Or.inl (by decide)) (sa_259 h0 g _) (by omega) (by decide) dX3_oneStepMore_49 ?_
        refine x_rd hW (fun x13 ex13 rx13 => ?_)
        refine x_iconst hx hb dX3_oneStepMore_50 ?_
        refine x_iadd hx hb dX3_oneStepMore_51 ?_
        refine x_any (fun x14 rx14 => ?_)
        refine x_mmin hx hb hml hl.1 hown hT wq997 wq569 wq180 wq570 ⟨by decide, Nat.le_of_ble_eq_true rfl, by decide, by decide⟩ ri2_21 rx14 dX3_oneStepMore_52 ?_
        refine x_nm (fun x15 ex15 => ?_)
        have fx15 : (x15 = i2_21 ∧ i2_21 ≤ x14) ∨ (x15 = x14 ∧ x14 ≤ i2_21) := by rw [ex15]; split <;> omega
        refine lv_istore_n (lv' := [(2, .int (xJ x15)), (4, .int (xJ x6)), (0, .ref (h0 + 156)), (1, .int (xJ a)), (3, .int (xJ i3_21))]) hx hb dX3_oneStepMore_55 rfl hl (by decide) rfl (fun ls hl => ?_)
        refine x_iinc (lv' := [(3, .int (xJ (i3_21 + 2))), (2, .int (xJ x15)), (4, .int (xJ x6)), (0, .ref (h0 + 156)), (1, .int (xJ a))]) hx hb hl 4 rfl dX3_oneStepMore_56 (by decide) rfl (fun ls hl => ?_)
        refine lv_goto (tgt := 21) hx hb dX3_oneStepMore_59 (by decide) ?_
        exact ih21 x15 (i3_21 + 2) H locs ls (by omega) (by omega) (by omega) (by omega) hW (lv_sub hl [3, 4, 1, 0] rfl)
    exact L21 ((8 - 0 : Int).toNat + 1) 1000000 0 H locs ls (by decide) (by decide) (by omega) (Nat.lt_succ_self _) hW (lv_sub hl [2, 3, 1, 0] rfl)
  refine x_iload_n hx hb hl 0 rfl dX3_oneStepMore_17 rfl ?_
  rw [eQ]
  exact x_iret hx hb hr hlk hW (by decide) ⟨rfl, trivial⟩ dX3_oneStepMore_18
set_option maxHeartbeats 4000000 in
set_option maxRecDepth 100000 in
theorem c_X3_spreadSteps (l : Launch) (D : va_G) (g : xG) (T : Nat × Nat × Nat) (h0 : Nat) (s0 : xS) (hσ : xRR s0) (ka : Nat) (hka : ka < 310) (hns : nsC ka) (hca : ∀ σ : xS, xcel h0 g σ ka = .inl (g.1, 100, .inl (fun j => xJ (σ ka j)))) (p0 : IC s0) : Met l yX3_spreadSteps (xws yX3_spreadSteps cX3_spreadSteps 4 none) { frames := 3, cells := 0, slots := 0, locals := 67 } (xP [.ref (h0 + 156), .ref (h0 + ka)] D g T h0 s0) (xQv D g h0 (fun τ => xFr (fun k => k = 259 ∨ k = 260) s0 τ ∧ (((IC τ) ∧ True) ∧ (True)))) 0 0 (xA h0) := by
  refine x_met hσ (by decide) (Nat.le_of_ble_eq_true rfl) ?_
  intro p e s m args below meth c hx hb hr hml hown hT hlk hnm hE hW ls hl
  have hl : lv_has ls 4 [(0, .ref (h0 + 156)), (1, .ref (h0 + ka))] := hl
  obtain ⟨Q, eQ⟩ : ∃ Q, Q = MQ below (xQv D g h0 (fun τ => xFr (fun k => k = 259 ∨ k = 260) s0 τ ∧ (((IC τ) ∧ True) ∧ (True)))) args s 0 0 (xA h0) := ⟨_, rfl⟩
  rw [← eQ]
  generalize hHe : ([] : List Loc) = locs at hW ⊢
  obtain ⟨H, eH⟩ : ∃ H, H = s.heap := ⟨_, rfl⟩
  rw [← eH] at hW ⊢
  have hF : xFr (fun k => k = 259 ∨ k = 260) s0 s0 := xFr.rf
  have k1_1 : s0 1 1 = s0 1 1 := rfl
  refine x_aload_n hx hb hl 1 rfl dX3_spreadSteps_0 rfl ?_
  refine x_iconst hx hb dX3_spreadSteps_1 ?_
  refine x_aload_n hx hb hl 0 rfl dX3_spreadSteps_2 rfl ?_
  refine x_get (j := 9) (v := .ref (h0 + 259)) hx hb hown hT hE hW cls_X3 (Or.inl (by decide)) (so_156 h0 g _) (by decide) rfl wq462 dX3_spreadSteps_3 ?_
  refine x_iconst hx hb dX3_spreadSteps_6 ?_
  refine x_bipush hx hb dX3_spreadSteps_7 (by decide) ?_
  refine x_copyi (ns := 100) (nd := 100) hx hb hml hl.1 hown hT hE hW wq1002 wq604 wq603 wq181 (Or.inl hka) (hca _) (by decide) (fun σ => sa_259 h0 g σ) (by omega) ⟨by decide, Nat.le_of_ble_eq_true rfl⟩ dX3_spreadSteps_9 (fun H locs s1 es1 hW => ?_)
  have q2 : IC s1 := IC_f (fun k hk => by rw [es1]; exact xC_k _ _ _ (fun q => hk (q ▸ (by decide)))) p0
  have q3 : s1 1 1 = s0 1 1 := (show s1 1 1 = s0 1 1 from by rw [es1, xC_k _ _ _ (by omega)]).trans k1_1
  have hF4 := hF.cpy es1 (by omega)
  refine x_iconst hx hb dX3_spreadSteps_12 ?_
  refine lv_istore_n (lv' := [(2, .int (xJ 0)), (0, .ref (h0 + 156)), (1, .ref (h0 + ka))]) hx hb dX3_spreadSteps_13 rfl hl (by decide) rfl (fun ls hl => ?_)
  have L14 : ∀ (fu : Nat) (i2_14 : Int) (s_14 : xS) (H : Heap) (locs : List Loc) (ls : Array Slot), (xR i2_14) → (xFr (fun k => k = 259 ∨ k = 260) s0 s_14) → (IC s_14) → (s_14 1 1 = s0 1 1) → (0 ≤ i2_14) → (i2_14 ≤ 3) → (3 + 1 - i2_14).toNat < fu → xW D g h0 s H locs s_14 → lv_has ls 4 [(0, .ref (h0 + 156)), (2, .int (xJ i2_14))] → W p l e { frames := 3, cells := 0, slots := 0, locals := 67 } s m args below meth c H locs 0 0 Q (F0 m 14 ls []) := by
    intro fu
    induction fu with
    | zero => intro i2_14 s_14 H locs ls ri2_14 hF_14 q14_0 q14_1 v14_0 v14_1 hm; exact absurd hm (Nat.not_lt_zero _)
    | succ fu ih14 =>
      intro i2_14 s_14 H locs ls ri2_14 hF_14 q14_0 q14_1 v14_0 v14_1 hm hW hl
      refine x_iload_n hx hb hl 1 rfl dX3_spreadSteps_14 rfl ?_
      refine x_iconst hx hb dX3_spreadSteps_15 ?_
      refine x_icmp_ge (tgt := 74) hx hb ri2_14 (by decide) dX3_spreadSteps_16 (by decide) (fun c5 => ?_) (fun c5 => ?_)
      · skip
        rw [eQ]
        exact x_vret hx hb hr hlk hW ⟨hF_14, ⟨q14_0, trivial⟩, trivial⟩ dX3_spreadSteps_74
      refine x_iconst hx hb dX3_spreadSteps_19 ?_
      refine lv_istore_n (lv' := [(3, .int (xJ 0)), (0, .ref (h0 + 156)), (2, .int (xJ i2_14))]) hx hb dX3_spreadSteps_20 rfl hl (by decide) rfl (fun ls hl => ?_)
      have L21 : ∀ (fu : Nat) (i3_21 : Int) (s_21 : xS) (H : Heap) (locs : List Loc) (ls : Array Slot), (xR i3_21) → (xFr (fun k => k = 259 ∨ k = 260) s0 s_21) → (IC s_21) → (s_21 1 1 = s0 1 1) → (0 ≤ i3_21) → (i3_21 ≤ 100) → (100 + 1 - i3_21).toNat < fu → xW D g h0 s H locs s_21 → lv_has ls 4 [(0, .ref (h0 + 156)), (2, .int (xJ i2_14)), (3, .int (xJ i3_21))] → W p l e { frames := 3, cells := 0, slots := 0, locals := 67 } s m args below meth c H locs 0 0 Q (F0 m 21 ls []) := by
        intro fu
        induction fu with
        | zero => intro i3_21 s_21 H locs ls ri3_21 hF_21 q21_0 q21_1 v21_0 v21_1 hm; exact absurd hm (Nat.not_lt_zero _)
        | succ fu ih21 =>
          intro i3_21 s_21 H locs ls ri3_21 hF_21 q21_0 q21_1 v21_0 v21_1 hm hW hl
          refine x_iload_n hx hb hl 2 rfl dX3_spreadSteps_21 rfl ?_
          refine x_bipush hx hb dX3_spreadSteps_22 (by decide) ?_
          refine x_icmp_ge (tgt := 53) hx hb ri3_21 (by decide) dX3_spreadSteps_24 (by decide) (fun c6 => ?_) (fun c6 => ?_)
          · skip
            refine x_aload_n hx hb hl 0 rfl dX3_spreadSteps_53 rfl ?_
            refine x_get (j := 10) (v := .ref (h0 + 260)) hx hb hown hT hE hW cls_X3 (Or.inl (by decide)) (so_156 h0 g _) (by decide) rfl wq463 dX3_spreadSteps_54 ?_
            refine x_iconst hx hb dX3_spreadSteps_57 ?_
            refine x_aload_n hx hb hl 0 rfl dX3_spreadSteps_58 rfl ?_
            refine x_get (j := 9) (v := .ref (h0 + 259)) hx hb hown hT hE hW cls_X3 (Or.inl (by decide)) (so_156 h0 g _) (by decide) rfl wq462 dX3_spreadSteps_59 ?_
            refine x_iconst hx hb dX3_spreadSteps_62 ?_
            refine x_bipush hx hb dX3_spreadSteps_63 (by decide) ?_
            refine x_copyi (ns := 100) (nd := 100) hx hb hml hl.1 hown hT hE hW wq1002 wq604 wq603 wq181 (Or.inl (by decide)) (sa_260 h0 g _) (by decide) (fun σ => sa_259 h0 g σ) (by omega) ⟨by decide, Nat.le_of_ble_eq_true rfl⟩ dX3_spreadSteps_65 (fun H locs s7 es7 hW => ?_)
            have q8 : IC s7 := IC_f (fun k hk => by rw [es7]; exact xC_k _ _ _ (fun q => hk (q ▸ (by decide)))) q21_0
            have q9 : s7 1 1 = s0 1 1 := (show s7 1 1 = s_21 1 1 from by rw [es7, xC_k _ _ _ (by omega)]).trans q21_1
            have hF10 := hF_21.cpy es7 (by omega)
            refine x_iinc (lv' := [(2, .int (xJ (i2_14 + 1))), (0, .ref (h0 + 156)), (3, .int (xJ i3_21))]) hx hb hl 1 rfl dX3_spreadSteps_68 (by decide) rfl (fun ls hl => ?_)
            refine lv_goto (tgt := 14) hx hb dX3_spreadSteps_71 (by decide) ?_
            exact ih14 (i2_14 + 1) s7 H locs ls (by omega) hF10 q8 q9 (by omega) (by omega) (by omega) hW (lv_sub hl [1, 0] rfl)
          refine x_aload_n hx hb hl 0 rfl dX3_spreadSteps_27 rfl ?_
          refine x_get (j := 10) (v := .ref (h0 + 260)) hx hb hown hT hE hW cls_X3 (Or.inl (by decide)) (so_156 h0 g _) (by decide) rfl wq463 dX3_spreadSteps_28 ?_
          refine x_iload_n hx hb hl 2 rfl dX3_spreadSteps_31 rfl ?_
          refine x_aload_n hx hb hl 0 rfl dX3_spreadSteps_32 rfl ?_
          refine x_get (j := 9) (v := .ref (h0 + 259)) hx hb hown hT hE hW cls_X3 (Or.inl (by decide)) (so_156 h0 g _) (by decide) rfl wq462 dX3_spreadSteps_33 ?_
          refine x_iload_n hx hb hl 2 rfl dX3_spreadSteps_36 rfl ?_
          refine x_iald hx hb hE hW (Or.inl (by decide)) (sa_259 h0 g _) (by omega) (by decide) dX3_spreadSteps_37 ?_
          refine x_rd hW (fun x11 ex11 rx11 => ?_)
          refine x_aload_n hx hb hl 0 rfl dX3_spreadSteps_38 rfl ?_
          refine x_iload_n hx hb hl 2 rfl dX3_spreadSteps_39 rfl ?_
          refine x_goi (x_runV (As := [.int (xJ i3_21)]) hx hb hml hown hT hE hW hl.1 (Or.inl (by decide)) (so_156 h0 g _) rfl cf_X3_oneStepMore wq1005 wq78 wq1003 (c_X3_oneStepMore l D g T h0 s_21 hW.2.1 i3_21 ri3_21 q21_0) ⟨rfl, rfl, ⟨by decide, by decide⟩, ⟨by decide, by decide⟩⟩ rfl rfl (Nat.le_of_ble_eq_true rfl) dX3_spreadSteps_40) hW (fun x12 s13 H locs rx12 hp14 hW => ?_)
          obtain ⟨es13, hp14⟩ := hp14
          subst es13
          have ghp14 := hp14
          refine x_mmin hx hb hml hl.1 hown hT wq997 wq569 wq180 wq570 ⟨by decide, Nat.le_of_ble_eq_true rfl, by decide, by decide⟩ rx11 rx12 dX3_spreadSteps_43 ?_
          refine x_nm (fun x15 ex15 => ?_)
          have fx15 : (x15 = x11 ∧ x11 ≤ x12) ∨ (x15 = x12 ∧ x12 ≤ x11) := by rw [ex15]; split <;> omega
          refine x_iast hx hb hE hW (by decide) (fun σ => sa_260 h0 g σ) (by omega) (by decide) (by omega) dX3_spreadSteps_46 (fun H locs s16 es16 hW => ?_)
          have q17 : IC s16 := by rw [es16]; exact IC_o (by decide) q21_0
          have q18 : s16 1 1 = s0 1 1 := (show s16 1 1 = s_21 1 1 from by rw [es16, xU_k _ _ _ (by omega)]).trans q21_1
          have hF19 := hF_21.put es16 (by omega)
          refine x_iinc (lv' := [(3, .int (xJ (i3_21 + 1))), (0, .ref (h0 + 156)), (2, .int (xJ i2_14))]) hx hb hl 2 rfl dX3_spreadSteps_47 (by decide) rfl (fun ls hl => ?_)
          refine lv_goto (tgt := 21) hx hb dX3_spreadSteps_50 (by decide) ?_
          exact ih21 (i3_21 + 1) s16 H locs ls (by omega) hF19 q17 q18 (by omega) (by omega) (by omega) hW (lv_sub hl [1, 2, 0] rfl)
      exact L21 ((100 + 1 - 0 : Int).toNat + 1) 0 s_14 H locs ls (by decide) hF_14 q14_0 q14_1 (by omega) (by omega) (Nat.lt_succ_self _) hW (lv_sub hl [1, 2, 0] rfl)
  exact L14 ((3 + 1 - 0 : Int).toNat + 1) 0 s1 H locs ls (by decide) hF4 q2 q3 (by omega) (by omega) (Nat.lt_succ_self _) hW (lv_sub hl [1, 0] rfl)
set_option maxHeartbeats 4000000 in
set_option maxRecDepth 100000 in
theorem c_X3_settle (l : Launch) (D : va_G) (g : xG) (T : Nat × Nat × Nat) (h0 : Nat) (s0 : xS) (hσ : xRR s0) (a : Int) (ra : xR a) (b : Int) (rb : xR b) (p0 : IC s0) : Met l yX3_settle (xws yX3_settle cX3_settle 5 none) { frames := 2, cells := 0, slots := 0, locals := 41 } (xP [.ref (h0 + 156), .int (xJ a), .int (xJ b)] D g T h0 s0) (xQv D g h0 (fun τ => xFr (fun k => (228 ≤ k ∧ k < 259)) s0 τ ∧ (((IC τ) ∧ True) ∧ (True)))) 0 0 (xA h0) := by
  refine x_met hσ (by decide) (Nat.le_of_ble_eq_true rfl) ?_
  intro p e s m args below meth c hx hb hr hml hown hT hlk hnm hE hW ls hl
  have hl : lv_has ls 5 [(0, .ref (h0 + 156)), (1, .int (xJ a)), (2, .int (xJ b))] := hl
  obtain ⟨Q, eQ⟩ : ∃ Q, Q = MQ below (xQv D g h0 (fun τ => xFr (fun k => (228 ≤ k ∧ k < 259)) s0 τ ∧ (((IC τ) ∧ True) ∧ (True)))) args s 0 0 (xA h0) := ⟨_, rfl⟩
  rw [← eQ]
  generalize hHe : ([] : List Loc) = locs at hW ⊢
  obtain ⟨H, eH⟩ : ∃ H, H = s.heap := ⟨_, rfl⟩
  rw [← eH] at hW ⊢
  have hF : xFr (fun k => (228 ≤ k ∧ k < 259)) s0 s0 := xFr.rf
  have k1_1 : s0 1 1 = s0 1 1 := rfl
  refine x_iload_n hx hb hl 1 rfl dX3_settle_0 rfl ?_
  refine x_if_lt (tgt := 15) hx hb ra dX3_settle_1 (by decide) (fun c1 => ?_) (fun c1 => ?_)
  · skip
    rw [eQ]
    exact x_vret hx hb hr hlk hW ⟨hF, ⟨p0, trivial⟩, trivial⟩ dX3_settle_15
  refine x_iload_n hx hb hl 1 rfl dX3_settle_4 rfl ?_
  refine x_iload_n hx hb hl 2 rfl dX3_settle_5 rfl ?_
  refine x_icmp_gt (tgt := 15) hx hb ra rb dX3_settle_6 (by decide) (fun c2 => ?_) (fun c2 => ?_)
  · skip
    rw [eQ]
    exact x_vret hx hb hr hlk hW ⟨hF, ⟨p0, trivial⟩, trivial⟩ dX3_settle_15
  refine x_iload_n hx hb hl 2 rfl dX3_settle_9 rfl ?_
  refine x_bipush hx hb dX3_settle_10 (by decide) ?_
  refine x_icmp_le (tgt := 16) hx hb rb (by decide) dX3_settle_12 (by decide) (fun c3 => ?_) (fun c3 => ?_)
  · skip
    refine x_iconst hx hb dX3_settle_16 ?_
    refine lv_istore_n (lv' := [(3, .int (xJ 0)), (0, .ref (h0 + 156)), (1, .int (xJ a)), (2, .int (xJ b))]) hx hb dX3_settle_17 rfl hl (by decide) rfl (fun ls hl => ?_)
    have L18 : ∀ (fu : Nat) (i3_18 : Int) (s_18 : xS) (H : Heap) (locs : List Loc) (ls : Array Slot), (xR i3_18) → (xFr (fun k => (228 ≤ k ∧ k < 259)) s0 s_18) → (IC s_18) → (s_18 1 1 = s0 1 1) → (0 ≤ i3_18) → (i3_18 ≤ 100) → (100 + 1 - i3_18).toNat < fu → xW D g h0 s H locs s_18 → lv_has ls 5 [(0, .ref (h0 + 156)), (1, .int (xJ a)), (2, .int (xJ b)), (3, .int (xJ i3_18))] → W p l e { frames := 2, cells := 0, slots := 0, locals := 41 } s m args below meth c H locs 0 0 Q (F0 m 18 ls []) := by
      intro fu
      induction fu with
      | zero => intro i3_18 s_18 H locs ls ri3_18 hF_18 q18_0 q18_1 v18_0 v18_1 hm; exact absurd hm (Nat.not_lt_zero _)
      | succ fu ih18 =>
        intro i3_18 s_18 H locs ls ri3_18 hF_18 q18_0 q18_1 v18_0 v18_1 hm hW hl
        refine x_iload_n hx hb hl 3 rfl dX3_settle_18 rfl ?_
        refine x_bipush hx hb dX3_settle_19 (by decide) ?_
        refine x_icmp_ge (tgt := 117) hx hb ri3_18 (by decide) dX3_settle_21 (by decide) (fun c4 => ?_) (fun c4 => ?_)
        · skip
          rw [eQ]
          exact x_vret hx hb hr hlk hW ⟨hF_18, ⟨q18_0, trivial⟩, trivial⟩ dX3_settle_117
        refine x_iload_n hx hb hl 1 rfl dX3_settle_24 rfl ?_
        refine x_iload_n hx hb hl 2 rfl dX3_settle_25 rfl ?_
        have J48 : ∀ (t0_48 : Int) (H : Heap) (locs : List Loc) (ls : Array Slot), (xR t0_48) → (t0_48 = 0 ∨ a < b) → xW D g h0 s H locs s_18 → lv_has ls 5 [(0, .ref (h0 + 156)), (1, .int (xJ a)), (2, .int (xJ b)), (3, .int (xJ i3_18))] → W p l e { frames := 2, cells := 0, slots := 0, locals := 41 } s m args below meth c H locs 0 0 Q (F0 m 48 ls [.int (xJ t0_48)]) := by
          intro t0_48 H locs ls rt0_48 v48_0 hW hl
          refine lv_istore (lv' := [(4, .int (xJ t0_48)), (0, .ref (h0 + 156)), (1, .int (xJ a)), (2, .int (xJ b)), (3, .int (xJ i3_18))]) hx hb dX3_settle_48 hl (by decide) rfl (fun ls hl => ?_)
          refine x_iload hx hb hl 0 rfl dX3_settle_50 ?_
          refine x_if_eq (tgt := 97) hx hb rt0_48 dX3_settle_52 (by decide) (fun c5 => ?_) (fun c5 => ?_)
          · skip
            refine x_aload_n hx hb hl 1 rfl dX3_settle_97 rfl ?_
            refine x_get (j := 8) (v := .ref (h0 + 227)) hx hb hown hT hE hW cls_X3 (Or.inl (by decide)) (so_156 h0 g _) (by decide) rfl wq461 dX3_settle_98 ?_
            refine x_iload_n hx hb hl 2 rfl dX3_settle_101 rfl ?_
            refine x_aaldR (t0 := 3) (n := 31) (r := 228 + (a).toNat) hx hb hE hW (by decide) rfl rfl (sg_227 h0 g _) (by omega) (by decide) rfl dX3_settle_102 ?_
            refine x_iload_n hx hb hl 4 rfl dX3_settle_103 rfl ?_
            refine x_aload_n hx hb hl 1 rfl dX3_settle_104 rfl ?_
            refine x_get (j := 9) (v := .ref (h0 + 259)) hx hb hown hT hE hW cls_X3 (Or.inl (by decide)) (so_156 h0 g _) (by decide) rfl wq462 dX3_settle_105 ?_
            refine x_iload_n hx hb hl 4 rfl dX3_settle_108 rfl ?_
            refine x_iald hx hb hE hW (Or.inl (by decide)) (sa_259 h0 g _) (by omega) (by decide) dX3_settle_109 ?_
            refine x_rd hW (fun x6 ex6 rx6 => ?_)
            refine x_iast hx hb hE hW (by omega) (fun σ => sa_least0 h0 g (by omega) σ) (by omega) (by decide) rx6 dX3_settle_110 (fun H locs s7 es7 hW => ?_)
            have q8 : IC s7 := by rw [es7]; exact IC_o (by unfold nsC; omega) q18_0
            have q9 : s7 1 1 = s0 1 1 := (show s7 1 1 = s_18 1 1 from by rw [es7, xU_k _ _ _ (by omega)]).trans q18_1
            have hF10 := hF_18.put es7 (by omega)
            refine x_iinc (lv' := [(3, .int (xJ (i3_18 + 1))), (4, .int (xJ t0_48)), (0, .ref (h0 + 156)), (1, .int (xJ a)), (2, .int (xJ b))]) hx hb hl 4 rfl dX3_settle_111 (by decide) rfl (fun ls hl => ?_)
            refine lv_goto (tgt := 18) hx hb dX3_settle_114 (by decide) ?_
            exact ih18 (i3_18 + 1) s7 H locs ls (by omega) hF10 q8 q9 (by omega) (by omega) (by omega) hW (lv_sub hl [2, 3, 4, 0] rfl)
          refine x_aload_n hx hb hl 1 rfl dX3_settle_55 rfl ?_
          refine x_get (j := 8) (v := .ref (h0 + 227)) hx hb hown hT hE hW cls_X3 (Or.inl (by decide)) (so_156 h0 g _) (by decide) rfl wq461 dX3_settle_56 ?_
          refine x_iload_n hx hb hl 2 rfl dX3_settle_59 rfl ?_
          refine x_iconst hx hb dX3_settle_60 ?_
          refine x_iadd hx hb dX3_settle_61 ?_
          refine x_aaldR (t0 := 3) (n := 31) (r := 228 + ((a + 1)).toNat) hx hb hE hW (by decide) rfl rfl (sg_227 h0 g _) (by omega) (by decide) rfl dX3_settle_62 ?_
          refine x_iload_n hx hb hl 4 rfl dX3_settle_63 rfl ?_
          refine x_aload_n hx hb hl 1 rfl dX3_settle_64 rfl ?_
          refine x_get (j := 8) (v := .ref (h0 + 227)) hx hb hown hT hE hW cls_X3 (Or.inl (by decide)) (so_156 h0 g _) (by decide) rfl wq461 dX3_settle_65 ?_
          refine x_iload_n hx hb hl 2 rfl dX3_settle_68 rfl ?_
          refine x_iconst hx hb dX3_settle_69 ?_
          refine x_iadd hx hb dX3_settle_70 ?_
          refine x_aaldR (t0 := 3) (n := 31) (r := 228 + ((a + 1)).toNat) hx hb hE hW (by decide) rfl rfl (sg_227 h0 g _) (by omega) (by decide) rfl dX3_settle_71 ?_
          refine x_iload_n hx hb hl 4 rfl dX3_settle_72 rfl ?_
          refine x_iald hx hb hE hW (Or.inl (by omega)) (sa_least0 h0 g (by omega) _) (by omega) (by decide) dX3_settle_73 ?_
          refine x_rd hW (fun x11 ex11 rx11 => ?_)
          refine x_aload_n hx hb hl 1 rfl dX3_settle_74 rfl ?_
          refine x_get (j := 9) (v := .ref (h0 + 259)) hx hb hown hT hE hW cls_X3 (Or.inl (by decide)) (so_156 h0 g _) (by decide) rfl wq462 dX3_settle_75 ?_
          refine x_iload_n hx hb hl 4 rfl dX3_settle_78 rfl ?_
          refine x_iald hx hb hE hW (Or.inl (by decide)) (sa_259 h0 g _) (by omega) (by decide) dX3_settle_79 ?_
          refine x_rd hW (fun x12 ex12 rx12 => ?_)
          refine x_mmin hx hb hml hl.1 hown hT wq997 wq569 wq180 wq570 ⟨by decide, Nat.le_of_ble_eq_true rfl, by decide, by decide⟩ rx11 rx12 dX3_settle_80 ?_
          refine x_nm (fun x13 ex13 => ?_)
          have fx13 : (x13 = x11 ∧ x11 ≤ x12) ∨ (x13 = x12 ∧ x12 ≤ x11) := by rw [ex13]; split <;> omega
          refine x_iast hx hb hE hW (by omega) (fun σ => sa_least0 h0 g (by omega) σ) (by omega) (by decide) (by omega) dX3_settle_83 (fun H locs s14 es14 hW => ?_)
          have q15 : IC s14 := by rw [es14]; exact IC_o (by unfold nsC; omega) q18_0
          have q16 : s14 1 1 = s0 1 1 := (show s14 1 1 = s_18 1 1 from by rw [es14, xU_k _ _ _ (by omega)]).trans q18_1
          have hF17 := hF_18.put es14 (by omega)
          refine x_aload_n hx hb hl 1 rfl dX3_settle_84 rfl ?_
          refine x_get (j := 8) (v := .ref (h0 + 227)) hx hb hown hT hE hW cls_X3 (Or.inl (by decide)) (so_156 h0 g _) (by decide) rfl wq461 dX3_settle_85 ?_
          refine x_iload_n hx hb hl 2 rfl dX3_settle_88 rfl ?_
          refine x_aaldR (t0 := 3) (n := 31) (r := 228 + (a).toNat) hx hb hE hW (by decide) rfl rfl (sg_227 h0 g _) (by omega) (by decide) rfl dX3_settle_89 ?_
          refine x_iload_n hx hb hl 4 rfl dX3_settle_90 rfl ?_
          refine lv_ldc (v := xJ 1000000) hx hb hown (hT _ wq991) dX3_settle_91 ?_
          refine x_iast hx hb hE hW (by omega) (fun σ => sa_least0 h0 g (by omega) σ) (by omega) (by decide) (by decide) dX3_settle_93 (fun H locs s18 es18 hW => ?_)
          have q19 : IC s18 := by rw [es18]; exact IC_o (by unfold nsC; omega) q15
          have q20 : s18 1 1 = s0 1 1 := (show s18 1 1 = s14 1 1 from by rw [es18, xU_k _ _ _ (by omega)]).trans q16
          have hF21 := hF17.put es18 (by omega)
          refine lv_goto (tgt := 111) hx hb dX3_settle_94 (by decide) ?_
          refine x_iinc (lv' := [(3, .int (xJ (i3_18 + 1))), (4, .int (xJ t0_48)), (0, .ref (h0 + 156)), (1, .int (xJ a)), (2, .int (xJ b))]) hx hb hl 4 rfl dX3_settle_111 (by decide) rfl (fun ls hl => ?_)
          refine lv_goto (tgt := 18) hx hb dX3_settle_114 (by decide) ?_
          exact ih18 (i3_18 + 1) s18 H locs ls (by omega) hF21 q19 q20 (by omega) (by omega) (by omega) hW (lv_sub hl [2, 3, 4, 0] rfl)
        have J47 : ∀ (H : Heap) (locs : List Loc) (ls : Array Slot), xW D g h0 s H locs s_18 → lv_has ls 5 [(0, .ref (h0 + 156)), (1, .int (xJ a)), (2, .int (xJ b)), (3, .int (xJ i3_18))] → W p l e { frames := 2, cells := 0, slots := 0, locals := 41 } s m args below meth c H locs 0 0 Q (F0 m 47 ls []) := by
          intro H locs ls  hW hl
          refine x_iconst hx hb dX3_settle_47 ?_
          exact J48 0 H locs ls (by decide) (by omega) hW (lv_sub hl [0, 1, 2, 3] rfl)
        refine x_icmp_ge (tgt := 47) hx hb ra rb dX3_settle_26 (by decide) (fun c22 => ?_) (fun c22 => ?_)
        · skip
          exact J47 H locs ls  hW (lv_sub hl [0, 1, 2, 3] rfl)
        refine x_aload_n hx hb hl 0 rfl dX3_settle_29 rfl ?_
        refine x_get (j := 0) (v := .ref (h0 + 128)) hx hb hown hT hE hW cls_X3 (Or.inl (by decide)) (so_156 h0 g _) (by decide) rfl wq450 dX3_settle_30 ?_
        refine x_getN (j := 3) (v := .ref (h0 + 130)) hx hb hown hT hE hW cls_X0 (Or.inl (by decide)) (so_128 h0 g _) (by decide) rfl wn359 dX3_settle_33 ?_
        refine x_iload_n hx hb hl 3 rfl dX3_settle_36 rfl ?_
        refine x_goi (x_runVN (As := [.int (xJ i3_18)]) hx hb hml hown hT hE hW hl.1 (Or.inl (by decide)) (so_130 h0 g _) rfl cf_X7_layersAt wq899 wq61 wn1013 (c_X7_layersAt l D g T h0 s_18 hW.2.1 i3_18 ri3_18 q18_0) ⟨rfl, rfl, ⟨by decide, by decide⟩, ⟨by decide, by decide⟩⟩ rfl rfl (Nat.le_of_ble_eq_true rfl) dX3_settle_37) hW (fun x23 s24 H locs rx23 hp25 hW => ?_)
        obtain ⟨es24, hp25⟩ := hp25
        subst es24
        have ghp25 := hp25
        refine x_if_le (tgt := 47) hx hb rx23 dX3_settle_40 (by decide) (fun c26 => ?_) (fun c26 => ?_)
        · skip
          exact J47 H locs ls  hW (lv_sub hl [0, 1, 2, 3] rfl)
        refine x_iconst hx hb dX3_settle_43 ?_
        refine lv_goto (tgt := 48) hx hb dX3_settle_44 (by decide) ?_
        exact J48 1 H locs ls (by decide) (by omega) hW (lv_sub hl [0, 1, 2, 3] rfl)
    exact L18 ((100 + 1 - 0 : Int).toNat + 1) 0 s0 H locs ls (by decide) hF p0 k1_1 (by omega) (by omega) (Nat.lt_succ_self _) hW (lv_sub hl [1, 2, 3, 0] rfl)
  rw [eQ]
  exact x_vret hx hb hr hlk hW ⟨hF, ⟨p0, trivial⟩, trivial⟩ dX3_settle_15

theorem cls_X5 : xCls RX5 TX5 2 5 tyX5 := ⟨xin [296, 298] (by decide +kernel) (by decide +kernel), rfl, tyX5_ok, nmX5⟩
theorem cf_X4_empty : xCF yX4_empty cX4_empty 1 none 0 := ⟨xq 640 (by decide +kernel) rfl, xq 171 (by decide +kernel) rfl, by decide +kernel⟩
theorem cf_X4_landSkip : xCF yX4_landSkip cX4_landSkip 2 none 1 := ⟨xq 693 (by decide +kernel) rfl, xq 171 (by decide +kernel) rfl, by decide +kernel⟩
theorem cf_X4_placeOfLetter : xCF yX4_placeOfLetter cX4_placeOfLetter 2 (some .int) 1 := ⟨xq 677 (by decide +kernel) rfl, xq 171 (by decide +kernel) rfl, by decide +kernel⟩
theorem cf_X4_put : xCF yX4_put cX4_put 4 (some .int) 2 := ⟨xq 673 (by decide +kernel) rfl, xq 171 (by decide +kernel) rfl, by decide +kernel⟩
theorem cf_X5_isKind : xCF yX5_isKind cX5_isKind 1 (some .boolean) 1 := ⟨xq 644 (by decide +kernel) rfl, xq 172 (by decide +kernel) rfl, by decide +kernel⟩
theorem cf_X5_readClause : xCF yX5_readClause cX5_readClause 3 (some .boolean) 2 := ⟨xq 649 (by decide +kernel) rfl, xq 172 (by decide +kernel) rfl, by decide +kernel⟩
theorem cf_X5_readFactor : xCF yX5_readFactor cX5_readFactor 4 (some .boolean) 1 := ⟨xq 661 (by decide +kernel) rfl, xq 172 (by decide +kernel) rfl, by decide +kernel⟩
theorem cf_X5_readNumber : xCF yX5_readNumber cX5_readNumber 3 (some .boolean) 0 := ⟨xq 669 (by decide +kernel) rfl, xq 172 (by decide +kernel) rfl, by decide +kernel⟩
theorem cf_X5_readParts : xCF yX5_readParts cX5_readParts 4 (some .boolean) 1 := ⟨xq 681 (by decide +kernel) rfl, xq 172 (by decide +kernel) rfl, by decide +kernel⟩
theorem cf_X5_readPiece : xCF yX5_readPiece cX5_readPiece 5 (some .boolean) 1 := ⟨xq 689 (by decide +kernel) rfl, xq 172 (by decide +kernel) rfl, by decide +kernel⟩
theorem cf_X5_readPieces : xCF yX5_readPieces cX5_readPieces 4 (some .boolean) 1 := ⟨xq 685 (by decide +kernel) rfl, xq 172 (by decide +kernel) rfl, by decide +kernel⟩
theorem cf_X5_readSum : xCF yX5_readSum cX5_readSum 4 (some .boolean) 1 := ⟨xq 653 (by decide +kernel) rfl, xq 172 (by decide +kernel) rfl, by decide +kernel⟩
theorem cf_X5_readTerm : xCF yX5_readTerm cX5_readTerm 4 (some .boolean) 1 := ⟨xq 657 (by decide +kernel) rfl, xq 172 (by decide +kernel) rfl, by decide +kernel⟩
theorem cf_X8_isDigit : xCF yX8_isDigit cX8_isDigit 1 (some .boolean) 0 := ⟨xq 665 (by decide +kernel) rfl, xq 169 (by decide +kernel) rfl, by decide +kernel⟩
theorem cf_X8_passes : xCF yX8_passes cX8_passes 2 (some .boolean) 1 := ⟨xq 599 (by decide +kernel) rfl, xq 169 (by decide +kernel) rfl, by decide +kernel⟩
theorem wq6 : Cond.selects yX8_passes.cls yX8_passes yX8_passes ∈ xTB := xq 6 (by decide +kernel) rfl
theorem wq14 : Cond.selects yX4_empty.cls yX4_empty yX4_empty ∈ xTB := xq 14 (by decide +kernel) rfl
theorem wq15 : Cond.selects yX5_readClause.cls yX5_readClause yX5_readClause ∈ xTB := xq 15 (by decide +kernel) rfl
theorem wq16 : Cond.selects yX5_readSum.cls yX5_readSum yX5_readSum ∈ xTB := xq 16 (by decide +kernel) rfl
theorem wq17 : Cond.selects yX5_readTerm.cls yX5_readTerm yX5_readTerm ∈ xTB := xq 17 (by decide +kernel) rfl
theorem wq18 : Cond.selects yX5_readFactor.cls yX5_readFactor yX5_readFactor ∈ xTB := xq 18 (by decide +kernel) rfl
theorem wq19 : Cond.selects yX8_isDigit.cls yX8_isDigit yX8_isDigit ∈ xTB := xq 19 (by decide +kernel) rfl
theorem wq20 : Cond.selects yX5_readNumber.cls yX5_readNumber yX5_readNumber ∈ xTB := xq 20 (by decide +kernel) rfl
theorem wq21 : Cond.selects yX4_put.cls yX4_put yX4_put ∈ xTB := xq 21 (by decide +kernel) rfl
theorem wq22 : Cond.selects yX5_readParts.cls yX5_readParts yX5_readParts ∈ xTB := xq 22 (by decide +kernel) rfl
theorem wq23 : Cond.selects yX5_readPieces.cls yX5_readPieces yX5_readPieces ∈ xTB := xq 23 (by decide +kernel) rfl
theorem wq24 : Cond.selects yX5_readPiece.cls yX5_readPiece yX5_readPiece ∈ xTB := xq 24 (by decide +kernel) rfl
theorem wq25 : Cond.selects yX4_landSkip.cls yX4_landSkip yX4_landSkip ∈ xTB := xq 25 (by decide +kernel) rfl
theorem wq293 : Cond.fieldLink "ShadowCourt$LawReader" (9) "ShadowCourt$LawReader" "tape" "LShadowCourt$Tape;" ∈ xTB := xq 293 (by decide +kernel) rfl
theorem wq294 : Cond.fieldLink "ShadowCourt$LawReader" (18) "ShadowCourt$LawReader" "written" "LShadowCourt$Law;" ∈ xTB := xq 294 (by decide +kernel) rfl
theorem wq598 : Cond.instanceMethod yX8_passes ∈ xTB := xq 598 (by decide +kernel) rfl
theorem wq639 : Cond.instanceMethod yX4_empty ∈ xTB := xq 639 (by decide +kernel) rfl
theorem wq642 : Cond.methodLink "ShadowCourt$LawReader" (31) yX5_isKind ∈ xTB := xq 642 (by decide +kernel) rfl
theorem wq643 : Cond.static yX5_isKind ∈ xTB := xq 643 (by decide +kernel) rfl
theorem wq646 : Cond.methodLink "ShadowCourt$LawReader" (43) yX5_readClause ∈ xTB := xq 646 (by decide +kernel) rfl
theorem wq648 : Cond.instanceMethod yX5_readClause ∈ xTB := xq 648 (by decide +kernel) rfl
theorem wq650 : Cond.methodLink "ShadowCourt$LawReader" (62) yX5_readSum ∈ xTB := xq 650 (by decide +kernel) rfl
theorem wq652 : Cond.instanceMethod yX5_readSum ∈ xTB := xq 652 (by decide +kernel) rfl
theorem wq654 : Cond.methodLink "ShadowCourt$LawReader" (85) yX5_readTerm ∈ xTB := xq 654 (by decide +kernel) rfl
theorem wq656 : Cond.instanceMethod yX5_readTerm ∈ xTB := xq 656 (by decide +kernel) rfl
theorem wq658 : Cond.methodLink "ShadowCourt$LawReader" (88) yX5_readFactor ∈ xTB := xq 658 (by decide +kernel) rfl
theorem wq660 : Cond.instanceMethod yX5_readFactor ∈ xTB := xq 660 (by decide +kernel) rfl
theorem wq664 : Cond.instanceMethod yX8_isDigit ∈ xTB := xq 664 (by decide +kernel) rfl
theorem wq666 : Cond.methodLink "ShadowCourt$LawReader" (95) yX5_readNumber ∈ xTB := xq 666 (by decide +kernel) rfl
theorem wq668 : Cond.instanceMethod yX5_readNumber ∈ xTB := xq 668 (by decide +kernel) rfl
theorem wq672 : Cond.instanceMethod yX4_put ∈ xTB := xq 672 (by decide +kernel) rfl
theorem wq676 : Cond.static yX4_placeOfLetter ∈ xTB := xq 676 (by decide +kernel) rfl
theorem wq678 : Cond.methodLink "ShadowCourt$LawReader" (72) yX5_readParts ∈ xTB := xq 678 (by decide +kernel) rfl
theorem wq680 : Cond.instanceMethod yX5_readParts ∈ xTB := xq 680 (by decide +kernel) rfl
theorem wq682 : Cond.methodLink "ShadowCourt$LawReader" (75) yX5_readPieces ∈ xTB := xq 682 (by decide +kernel) rfl
theorem wq684 : Cond.instanceMethod yX5_readPieces ∈ xTB := xq 684 (by decide +kernel) rfl
theorem wq686 : Cond.methodLink "ShadowCourt$LawReader" (82) yX5_readPiece ∈ xTB := xq 686 (by decide +kernel) rfl
theorem wq688 : Cond.instanceMethod yX5_readPiece ∈ xTB := xq 688 (by decide +kernel) rfl
theorem wq692 : Cond.instanceMethod yX4_landSkip ∈ xTB := xq 692 (by decide +kernel) rfl
theorem wn201 : Cond.fieldLinkNest "ShadowCourt$LawReader" (35) "ShadowCourt$Tape" "at" "I" "ShadowCourt" ∈ xNL := xn 201 (by decide +kernel) rfl
theorem wn254 : Cond.fieldLinkNest "ShadowCourt$LawReader" (59) "ShadowCourt$Law" "used" "I" "ShadowCourt" ∈ xNL := xn 254 (by decide +kernel) rfl
theorem wn256 : Cond.fieldLinkNest "ShadowCourt$LawReader" (52) "ShadowCourt$Law" "kindOfClause" "[I" "ShadowCourt" ∈ xNL := xn 256 (by decide +kernel) rfl
theorem wn258 : Cond.fieldLinkNest "ShadowCourt$LawReader" (56) "ShadowCourt$Law" "worthAt" "[I" "ShadowCourt" ∈ xNL := xn 258 (by decide +kernel) rfl
theorem wn260 : Cond.fieldLinkNest "ShadowCourt$LawReader" (69) "ShadowCourt$Law" "askedAt" "[I" "ShadowCourt" ∈ xNL := xn 260 (by decide +kernel) rfl
theorem wn262 : Cond.fieldLinkNest "ShadowCourt$LawReader" (46) "ShadowCourt$Law" "clauses" "I" "ShadowCourt" ∈ xNL := xn 262 (by decide +kernel) rfl
theorem wn637 : Cond.methodLinkNest "ShadowCourt$LawReader" (22) yX4_empty "ShadowCourt" ∈ xNL := xn 637 (by decide +kernel) rfl
theorem wn641 : Cond.methodLinkNest "ShadowCourt$LawReader" (25) yX8_sign "ShadowCourt" ∈ xNL := xn 641 (by decide +kernel) rfl
theorem wn645 : Cond.methodLinkNest "ShadowCourt$LawReader" (39) yX8_fails "ShadowCourt" ∈ xNL := xn 645 (by decide +kernel) rfl
theorem wn662 : Cond.methodLinkNest "ShadowCourt$LawReader" (91) yX8_isDigit "ShadowCourt" ∈ xNL := xn 662 (by decide +kernel) rfl
theorem wn670 : Cond.methodLinkNest "ShadowCourt$LawReader" (65) yX4_put "ShadowCourt" ∈ xNL := xn 670 (by decide +kernel) rfl
theorem wn674 : Cond.methodLinkNest "ShadowCourt$LawReader" (49) yX8_passes "ShadowCourt" ∈ xNL := xn 674 (by decide +kernel) rfl
theorem wn675 : Cond.methodLinkNest "ShadowCourt$LawReader" (98) yX4_placeOfLetter "ShadowCourt" ∈ xNL := xn 675 (by decide +kernel) rfl
theorem wn690 : Cond.methodLinkNest "ShadowCourt$LawReader" (78) yX4_landSkip "ShadowCourt" ∈ xNL := xn 690 (by decide +kernel) rfl
theorem dX5_isKind_0 : decode cX5_isKind 0 = .ok (.iload_n 0, 1) := by decide +kernel
theorem dX5_isKind_1 : decode cX5_isKind 1 = .ok (.bipush 97, 2) := by decide +kernel
theorem dX5_isKind_3 : decode cX5_isKind 3 = .ok (.if_icmp .eq 33, 3) := by decide +kernel
theorem dX5_isKind_6 : decode cX5_isKind 6 = .ok (.iload_n 0, 1) := by decide +kernel
theorem dX5_isKind_7 : decode cX5_isKind 7 = .ok (.bipush 108, 2) := by decide +kernel
theorem dX5_isKind_9 : decode cX5_isKind 9 = .ok (.if_icmp .eq 27, 3) := by decide +kernel
theorem dX5_isKind_12 : decode cX5_isKind 12 = .ok (.iload_n 0, 1) := by decide +kernel
theorem dX5_isKind_13 : decode cX5_isKind 13 = .ok (.bipush 99, 2) := by decide +kernel
theorem dX5_isKind_15 : decode cX5_isKind 15 = .ok (.if_icmp .eq 21, 3) := by decide +kernel
theorem dX5_isKind_18 : decode cX5_isKind 18 = .ok (.iload_n 0, 1) := by decide +kernel
theorem dX5_isKind_19 : decode cX5_isKind 19 = .ok (.bipush 110, 2) := by decide +kernel
theorem dX5_isKind_21 : decode cX5_isKind 21 = .ok (.if_icmp .eq 15, 3) := by decide +kernel
theorem dX5_isKind_24 : decode cX5_isKind 24 = .ok (.iload_n 0, 1) := by decide +kernel
theorem dX5_isKind_25 : decode cX5_isKind 25 = .ok (.bipush 118, 2) := by decide +kernel
theorem dX5_isKind_27 : decode cX5_isKind 27 = .ok (.if_icmp .eq 9, 3) := by decide +kernel
theorem dX5_isKind_30 : decode cX5_isKind 30 = .ok (.iload_n 0, 1) := by decide +kernel
theorem dX5_isKind_31 : decode cX5_isKind 31 = .ok (.bipush 111, 2) := by decide +kernel
theorem dX5_isKind_33 : decode cX5_isKind 33 = .ok (.if_icmp .ne 7, 3) := by decide +kernel
theorem dX5_isKind_36 : decode cX5_isKind 36 = .ok (.iconst 1, 1) := by decide +kernel
theorem dX5_isKind_37 : decode cX5_isKind 37 = .ok (.goto 4, 3) := by decide +kernel
theorem dX5_isKind_40 : decode cX5_isKind 40 = .ok (.iconst 0, 1) := by decide +kernel
theorem dX5_isKind_41 : decode cX5_isKind 41 = .ok (.ireturn, 1) := by decide +kernel
theorem dX5_readClause_0 : decode cX5_readClause 0 = .ok (.iload_n 2, 1) := by decide +kernel
theorem dX5_readClause_1 : decode cX5_readClause 1 = .ok (.ifCond .lt 9, 3) := by decide +kernel
theorem dX5_readClause_4 : decode cX5_readClause 4 = .ok (.iload_n 2, 1) := by decide +kernel
theorem dX5_readClause_5 : decode cX5_readClause 5 = .ok (.bipush 16, 2) := by decide +kernel
theorem dX5_readClause_7 : decode cX5_readClause 7 = .ok (.if_icmp .lt 5, 3) := by decide +kernel
theorem dX5_readClause_12 : decode cX5_readClause 12 = .ok (.aload_n 0, 1) := by decide +kernel
theorem dX5_readClause_13 : decode cX5_readClause 13 = .ok (.getfield 18, 3) := by decide +kernel
theorem dX5_readClause_16 : decode cX5_readClause 16 = .ok (.getfield 52, 3) := by decide +kernel
theorem dX5_readClause_19 : decode cX5_readClause 19 = .ok (.iload_n 2, 1) := by decide +kernel
theorem dX5_readClause_20 : decode cX5_readClause 20 = .ok (.iload_n 1, 1) := by decide +kernel
theorem dX5_readClause_21 : decode cX5_readClause 21 = .ok (.iastore, 1) := by decide +kernel
theorem dX5_readClause_22 : decode cX5_readClause 22 = .ok (.aload_n 0, 1) := by decide +kernel
theorem dX5_readClause_23 : decode cX5_readClause 23 = .ok (.getfield 18, 3) := by decide +kernel
theorem dX5_readClause_26 : decode cX5_readClause 26 = .ok (.getfield 56, 3) := by decide +kernel
theorem dX5_readClause_29 : decode cX5_readClause 29 = .ok (.iload_n 2, 1) := by decide +kernel
theorem dX5_readClause_30 : decode cX5_readClause 30 = .ok (.aload_n 0, 1) := by decide +kernel
theorem dX5_readClause_31 : decode cX5_readClause 31 = .ok (.getfield 18, 3) := by decide +kernel
theorem dX5_readClause_34 : decode cX5_readClause 34 = .ok (.getfield 59, 3) := by decide +kernel
theorem dX5_readClause_37 : decode cX5_readClause 37 = .ok (.iastore, 1) := by decide +kernel
theorem dX5_readClause_38 : decode cX5_readClause 38 = .ok (.iload_n 1, 1) := by decide +kernel
theorem dX5_readClause_39 : decode cX5_readClause 39 = .ok (.bipush 110, 2) := by decide +kernel
theorem dX5_readClause_41 : decode cX5_readClause 41 = .ok (.if_icmp .eq 13, 3) := by decide +kernel
theorem dX5_readClause_44 : decode cX5_readClause 44 = .ok (.aload_n 0, 1) := by decide +kernel
theorem dX5_readClause_45 : decode cX5_readClause 45 = .ok (.iconst 0, 1) := by decide +kernel
theorem dX5_readClause_46 : decode cX5_readClause 46 = .ok (.invokevirtual 62, 3) := by decide +kernel
theorem dX5_readClause_49 : decode cX5_readClause 49 = .ok (.ifCond .ne 5, 3) := by decide +kernel
theorem dX5_readClause_52 : decode cX5_readClause 52 = .ok (.iconst 0, 1) := by decide +kernel
theorem dX5_readClause_53 : decode cX5_readClause 53 = .ok (.ireturn, 1) := by decide +kernel
theorem dX5_readClause_54 : decode cX5_readClause 54 = .ok (.aload_n 0, 1) := by decide +kernel
theorem dX5_readClause_55 : decode cX5_readClause 55 = .ok (.getfield 18, 3) := by decide +kernel
theorem dX5_readClause_58 : decode cX5_readClause 58 = .ok (.iconst 0, 1) := by decide +kernel
theorem dX5_readClause_59 : decode cX5_readClause 59 = .ok (.iconst 0, 1) := by decide +kernel
theorem dX5_readClause_60 : decode cX5_readClause 60 = .ok (.invokevirtual 65, 3) := by decide +kernel
theorem dX5_readClause_63 : decode cX5_readClause 63 = .ok (.pop, 1) := by decide +kernel
theorem dX5_readClause_64 : decode cX5_readClause 64 = .ok (.aload_n 0, 1) := by decide +kernel
theorem dX5_readClause_65 : decode cX5_readClause 65 = .ok (.getfield 18, 3) := by decide +kernel
theorem dX5_readClause_68 : decode cX5_readClause 68 = .ok (.getfield 69, 3) := by decide +kernel
theorem dX5_readClause_71 : decode cX5_readClause 71 = .ok (.iload_n 2, 1) := by decide +kernel
theorem dX5_readClause_72 : decode cX5_readClause 72 = .ok (.aload_n 0, 1) := by decide +kernel
theorem dX5_readClause_73 : decode cX5_readClause 73 = .ok (.getfield 18, 3) := by decide +kernel
theorem dX5_readClause_76 : decode cX5_readClause 76 = .ok (.getfield 59, 3) := by decide +kernel
theorem dX5_readClause_79 : decode cX5_readClause 79 = .ok (.iastore, 1) := by decide +kernel
theorem dX5_readClause_80 : decode cX5_readClause 80 = .ok (.aload_n 0, 1) := by decide +kernel
theorem dX5_readClause_81 : decode cX5_readClause 81 = .ok (.getfield 9, 3) := by decide +kernel
theorem dX5_readClause_84 : decode cX5_readClause 84 = .ok (.bipush 40, 2) := by decide +kernel
theorem dX5_readClause_86 : decode cX5_readClause 86 = .ok (.invokevirtual 49, 3) := by decide +kernel
theorem dX5_readClause_89 : decode cX5_readClause 89 = .ok (.ifCond .eq 23, 3) := by decide +kernel
theorem dX5_readClause_92 : decode cX5_readClause 92 = .ok (.aload_n 0, 1) := by decide +kernel
theorem dX5_readClause_93 : decode cX5_readClause 93 = .ok (.iconst 1, 1) := by decide +kernel
theorem dX5_readClause_94 : decode cX5_readClause 94 = .ok (.invokevirtual 72, 3) := by decide +kernel
theorem dX5_readClause_97 : decode cX5_readClause 97 = .ok (.ifCond .eq 15, 3) := by decide +kernel
theorem dX5_readClause_100 : decode cX5_readClause 100 = .ok (.aload_n 0, 1) := by decide +kernel
theorem dX5_readClause_101 : decode cX5_readClause 101 = .ok (.getfield 9, 3) := by decide +kernel
theorem dX5_readClause_104 : decode cX5_readClause 104 = .ok (.bipush 41, 2) := by decide +kernel
theorem dX5_readClause_106 : decode cX5_readClause 106 = .ok (.invokevirtual 49, 3) := by decide +kernel
theorem dX5_readClause_109 : decode cX5_readClause 109 = .ok (.ifCond .ne 5, 3) := by decide +kernel
theorem dX5_readClause_112 : decode cX5_readClause 112 = .ok (.iconst 0, 1) := by decide +kernel
theorem dX5_readClause_113 : decode cX5_readClause 113 = .ok (.ireturn, 1) := by decide +kernel
theorem dX5_readClause_114 : decode cX5_readClause 114 = .ok (.aload_n 0, 1) := by decide +kernel
theorem dX5_readClause_115 : decode cX5_readClause 115 = .ok (.getfield 18, 3) := by decide +kernel
theorem dX5_readClause_118 : decode cX5_readClause 118 = .ok (.iconst 0, 1) := by decide +kernel
theorem dX5_readClause_119 : decode cX5_readClause 119 = .ok (.iconst 0, 1) := by decide +kernel
theorem dX5_readClause_120 : decode cX5_readClause 120 = .ok (.invokevirtual 65, 3) := by decide +kernel
theorem dX5_readClause_123 : decode cX5_readClause 123 = .ok (.pop, 1) := by decide +kernel
theorem dX5_readClause_124 : decode cX5_readClause 124 = .ok (.iconst 1, 1) := by decide +kernel
theorem dX5_readClause_125 : decode cX5_readClause 125 = .ok (.ireturn, 1) := by decide +kernel
theorem dX5_readFactor_0 : decode cX5_readFactor 0 = .ok (.aload_n 0, 1) := by decide +kernel
theorem dX5_readFactor_1 : decode cX5_readFactor 1 = .ok (.getfield 9, 3) := by decide +kernel
theorem dX5_readFactor_4 : decode cX5_readFactor 4 = .ok (.invokevirtual 91, 3) := by decide +kernel
theorem dX5_readFactor_7 : decode cX5_readFactor 7 = .ok (.ifCond .eq 8, 3) := by decide +kernel
theorem dX5_readFactor_10 : decode cX5_readFactor 10 = .ok (.aload_n 0, 1) := by decide +kernel
theorem dX5_readFactor_11 : decode cX5_readFactor 11 = .ok (.invokevirtual 95, 3) := by decide +kernel
theorem dX5_readFactor_14 : decode cX5_readFactor 14 = .ok (.ireturn, 1) := by decide +kernel
theorem dX5_readFactor_15 : decode cX5_readFactor 15 = .ok (.aload_n 0, 1) := by decide +kernel
theorem dX5_readFactor_16 : decode cX5_readFactor 16 = .ok (.getfield 9, 3) := by decide +kernel
theorem dX5_readFactor_19 : decode cX5_readFactor 19 = .ok (.invokevirtual 25, 3) := by decide +kernel
theorem dX5_readFactor_22 : decode cX5_readFactor 22 = .ok (.istore_n 2, 1) := by decide +kernel
theorem dX5_readFactor_23 : decode cX5_readFactor 23 = .ok (.iload_n 2, 1) := by decide +kernel
theorem dX5_readFactor_24 : decode cX5_readFactor 24 = .ok (.bipush 91, 2) := by decide +kernel
theorem dX5_readFactor_26 : decode cX5_readFactor 26 = .ok (.if_icmp .ne 66, 3) := by decide +kernel
theorem dX5_readFactor_29 : decode cX5_readFactor 29 = .ok (.iload_n 1, 1) := by decide +kernel
theorem dX5_readFactor_30 : decode cX5_readFactor 30 = .ok (.bipush 6, 2) := by decide +kernel
theorem dX5_readFactor_32 : decode cX5_readFactor 32 = .ok (.if_icmp .lt 19, 3) := by decide +kernel
theorem dX5_readFactor_35 : decode cX5_readFactor 35 = .ok (.aload_n 0, 1) := by decide +kernel
theorem dX5_readFactor_36 : decode cX5_readFactor 36 = .ok (.getfield 9, 3) := by decide +kernel
theorem dX5_readFactor_39 : decode cX5_readFactor 39 = .ok (.iconst 5, 1) := by decide +kernel
theorem dX5_readFactor_40 : decode cX5_readFactor 40 = .ok (.aload_n 0, 1) := by decide +kernel
theorem dX5_readFactor_41 : decode cX5_readFactor 41 = .ok (.getfield 9, 3) := by decide +kernel
theorem dX5_readFactor_44 : decode cX5_readFactor 44 = .ok (.getfield 35, 3) := by decide +kernel
theorem dX5_readFactor_47 : decode cX5_readFactor 47 = .ok (.invokevirtual 39, 3) := by decide +kernel
theorem dX5_readFactor_50 : decode cX5_readFactor 50 = .ok (.ireturn, 1) := by decide +kernel
theorem dX5_readFactor_51 : decode cX5_readFactor 51 = .ok (.aload_n 0, 1) := by decide +kernel
theorem dX5_readFactor_52 : decode cX5_readFactor 52 = .ok (.getfield 9, 3) := by decide +kernel
theorem dX5_readFactor_55 : decode cX5_readFactor 55 = .ok (.dup, 1) := by decide +kernel
theorem dX5_readFactor_56 : decode cX5_readFactor 56 = .ok (.getfield 35, 3) := by decide +kernel
theorem dX5_readFactor_59 : decode cX5_readFactor 59 = .ok (.iconst 1, 1) := by decide +kernel
theorem dX5_readFactor_60 : decode cX5_readFactor 60 = .ok (.iadd, 1) := by decide +kernel
theorem dX5_readFactor_61 : decode cX5_readFactor 61 = .ok (.putfield 35, 3) := by decide +kernel
theorem dX5_readFactor_64 : decode cX5_readFactor 64 = .ok (.aload_n 0, 1) := by decide +kernel
theorem dX5_readFactor_65 : decode cX5_readFactor 65 = .ok (.iload_n 1, 1) := by decide +kernel
theorem dX5_readFactor_66 : decode cX5_readFactor 66 = .ok (.iconst 1, 1) := by decide +kernel
theorem dX5_readFactor_67 : decode cX5_readFactor 67 = .ok (.iadd, 1) := by decide +kernel
theorem dX5_readFactor_68 : decode cX5_readFactor 68 = .ok (.invokevirtual 62, 3) := by decide +kernel
theorem dX5_readFactor_71 : decode cX5_readFactor 71 = .ok (.ifCond .eq 19, 3) := by decide +kernel
theorem dX5_readFactor_74 : decode cX5_readFactor 74 = .ok (.aload_n 0, 1) := by decide +kernel
theorem dX5_readFactor_75 : decode cX5_readFactor 75 = .ok (.getfield 9, 3) := by decide +kernel
theorem dX5_readFactor_78 : decode cX5_readFactor 78 = .ok (.bipush 93, 2) := by decide +kernel
theorem dX5_readFactor_80 : decode cX5_readFactor 80 = .ok (.invokevirtual 49, 3) := by decide +kernel
theorem dX5_readFactor_83 : decode cX5_readFactor 83 = .ok (.ifCond .eq 7, 3) := by decide +kernel
theorem dX5_readFactor_86 : decode cX5_readFactor 86 = .ok (.iconst 1, 1) := by decide +kernel
theorem dX5_readFactor_87 : decode cX5_readFactor 87 = .ok (.goto 4, 3) := by decide +kernel
theorem dX5_readFactor_90 : decode cX5_readFactor 90 = .ok (.iconst 0, 1) := by decide +kernel
theorem dX5_readFactor_91 : decode cX5_readFactor 91 = .ok (.ireturn, 1) := by decide +kernel
theorem dX5_readFactor_92 : decode cX5_readFactor 92 = .ok (.iload_n 2, 1) := by decide +kernel
theorem dX5_readFactor_93 : decode cX5_readFactor 93 = .ok (.invokestatic 98, 3) := by decide +kernel
theorem dX5_readFactor_96 : decode cX5_readFactor 96 = .ok (.istore_n 3, 1) := by decide +kernel
theorem dX5_readFactor_97 : decode cX5_readFactor 97 = .ok (.iload_n 3, 1) := by decide +kernel
theorem dX5_readFactor_98 : decode cX5_readFactor 98 = .ok (.iconst (-1), 1) := by decide +kernel
theorem dX5_readFactor_99 : decode cX5_readFactor 99 = .ok (.if_icmp .ne 19, 3) := by decide +kernel
theorem dX5_readFactor_102 : decode cX5_readFactor 102 = .ok (.aload_n 0, 1) := by decide +kernel
theorem dX5_readFactor_103 : decode cX5_readFactor 103 = .ok (.getfield 9, 3) := by decide +kernel
theorem dX5_readFactor_106 : decode cX5_readFactor 106 = .ok (.iconst 1, 1) := by decide +kernel
theorem dX5_readFactor_107 : decode cX5_readFactor 107 = .ok (.aload_n 0, 1) := by decide +kernel
theorem dX5_readFactor_108 : decode cX5_readFactor 108 = .ok (.getfield 9, 3) := by decide +kernel
theorem dX5_readFactor_111 : decode cX5_readFactor 111 = .ok (.getfield 35, 3) := by decide +kernel
theorem dX5_readFactor_114 : decode cX5_readFactor 114 = .ok (.invokevirtual 39, 3) := by decide +kernel
theorem dX5_readFactor_117 : decode cX5_readFactor 117 = .ok (.ireturn, 1) := by decide +kernel
theorem dX5_readFactor_118 : decode cX5_readFactor 118 = .ok (.aload_n 0, 1) := by decide +kernel
theorem dX5_readFactor_119 : decode cX5_readFactor 119 = .ok (.getfield 9, 3) := by decide +kernel
theorem dX5_readFactor_122 : decode cX5_readFactor 122 = .ok (.dup, 1) := by decide +kernel
theorem dX5_readFactor_123 : decode cX5_readFactor 123 = .ok (.getfield 35, 3) := by decide +kernel
theorem dX5_readFactor_126 : decode cX5_readFactor 126 = .ok (.iconst 1, 1) := by decide +kernel
theorem dX5_readFactor_127 : decode cX5_readFactor 127 = .ok (.iadd, 1) := by decide +kernel
theorem dX5_readFactor_128 : decode cX5_readFactor 128 = .ok (.putfield 35, 3) := by decide +kernel
theorem dX5_readFactor_131 : decode cX5_readFactor 131 = .ok (.aload_n 0, 1) := by decide +kernel
theorem dX5_readFactor_132 : decode cX5_readFactor 132 = .ok (.getfield 18, 3) := by decide +kernel
theorem dX5_readFactor_135 : decode cX5_readFactor 135 = .ok (.iconst 2, 1) := by decide +kernel
theorem dX5_readFactor_136 : decode cX5_readFactor 136 = .ok (.iload_n 3, 1) := by decide +kernel
theorem dX5_readFactor_137 : decode cX5_readFactor 137 = .ok (.invokevirtual 65, 3) := by decide +kernel
theorem dX5_readFactor_140 : decode cX5_readFactor 140 = .ok (.pop, 1) := by decide +kernel
theorem dX5_readFactor_141 : decode cX5_readFactor 141 = .ok (.iconst 1, 1) := by decide +kernel
theorem dX5_readFactor_142 : decode cX5_readFactor 142 = .ok (.ireturn, 1) := by decide +kernel
theorem dX5_readNumber_0 : decode cX5_readNumber 0 = .ok (.iconst 0, 1) := by decide +kernel
theorem dX5_readNumber_1 : decode cX5_readNumber 1 = .ok (.istore_n 1, 1) := by decide +kernel
theorem dX5_readNumber_2 : decode cX5_readNumber 2 = .ok (.iconst 0, 1) := by decide +kernel
theorem dX5_readNumber_3 : decode cX5_readNumber 3 = .ok (.istore_n 2, 1) := by decide +kernel
theorem dX5_readNumber_4 : decode cX5_readNumber 4 = .ok (.iload_n 2, 1) := by decide +kernel
theorem dX5_readNumber_5 : decode cX5_readNumber 5 = .ok (.iconst 5, 1) := by decide +kernel
theorem dX5_readNumber_6 : decode cX5_readNumber 6 = .ok (.if_icmp .ge 48, 3) := by decide +kernel
theorem dX5_readNumber_9 : decode cX5_readNumber 9 = .ok (.aload_n 0, 1) := by decide +kernel
theorem dX5_readNumber_10 : decode cX5_readNumber 10 = .ok (.getfield 9, 3) := by decide +kernel
theorem dX5_readNumber_13 : decode cX5_readNumber 13 = .ok (.invokevirtual 91, 3) := by decide +kernel
theorem dX5_readNumber_16 : decode cX5_readNumber 16 = .ok (.ifCond .eq 38, 3) := by decide +kernel
theorem dX5_readNumber_19 : decode cX5_readNumber 19 = .ok (.bipush 10, 2) := by decide +kernel
theorem dX5_readNumber_21 : decode cX5_readNumber 21 = .ok (.iload_n 1, 1) := by decide +kernel
theorem dX5_readNumber_22 : decode cX5_readNumber 22 = .ok (.imul, 1) := by decide +kernel
theorem dX5_readNumber_23 : decode cX5_readNumber 23 = .ok (.aload_n 0, 1) := by decide +kernel
theorem dX5_readNumber_24 : decode cX5_readNumber 24 = .ok (.getfield 9, 3) := by decide +kernel
theorem dX5_readNumber_27 : decode cX5_readNumber 27 = .ok (.invokevirtual 25, 3) := by decide +kernel
theorem dX5_readNumber_30 : decode cX5_readNumber 30 = .ok (.iadd, 1) := by decide +kernel
theorem dX5_readNumber_31 : decode cX5_readNumber 31 = .ok (.bipush 48, 2) := by decide +kernel
theorem dX5_readNumber_33 : decode cX5_readNumber 33 = .ok (.isub, 1) := by decide +kernel
theorem dX5_readNumber_34 : decode cX5_readNumber 34 = .ok (.istore_n 1, 1) := by decide +kernel
theorem dX5_readNumber_35 : decode cX5_readNumber 35 = .ok (.aload_n 0, 1) := by decide +kernel
theorem dX5_readNumber_36 : decode cX5_readNumber 36 = .ok (.getfield 9, 3) := by decide +kernel
theorem dX5_readNumber_39 : decode cX5_readNumber 39 = .ok (.dup, 1) := by decide +kernel
theorem dX5_readNumber_40 : decode cX5_readNumber 40 = .ok (.getfield 35, 3) := by decide +kernel
theorem dX5_readNumber_43 : decode cX5_readNumber 43 = .ok (.iconst 1, 1) := by decide +kernel
theorem dX5_readNumber_44 : decode cX5_readNumber 44 = .ok (.iadd, 1) := by decide +kernel
theorem dX5_readNumber_45 : decode cX5_readNumber 45 = .ok (.putfield 35, 3) := by decide +kernel
theorem dX5_readNumber_48 : decode cX5_readNumber 48 = .ok (.iinc 2 1, 3) := by decide +kernel
theorem dX5_readNumber_51 : decode cX5_readNumber 51 = .ok (.goto (-47), 3) := by decide +kernel
theorem dX5_readNumber_54 : decode cX5_readNumber 54 = .ok (.aload_n 0, 1) := by decide +kernel
theorem dX5_readNumber_55 : decode cX5_readNumber 55 = .ok (.getfield 9, 3) := by decide +kernel
theorem dX5_readNumber_58 : decode cX5_readNumber 58 = .ok (.invokevirtual 91, 3) := by decide +kernel
theorem dX5_readNumber_61 : decode cX5_readNumber 61 = .ok (.ifCond .eq 19, 3) := by decide +kernel
theorem dX5_readNumber_64 : decode cX5_readNumber 64 = .ok (.aload_n 0, 1) := by decide +kernel
theorem dX5_readNumber_65 : decode cX5_readNumber 65 = .ok (.getfield 9, 3) := by decide +kernel
theorem dX5_readNumber_68 : decode cX5_readNumber 68 = .ok (.iconst 2, 1) := by decide +kernel
theorem dX5_readNumber_69 : decode cX5_readNumber 69 = .ok (.aload_n 0, 1) := by decide +kernel
theorem dX5_readNumber_70 : decode cX5_readNumber 70 = .ok (.getfield 9, 3) := by decide +kernel
theorem dX5_readNumber_73 : decode cX5_readNumber 73 = .ok (.getfield 35, 3) := by decide +kernel
theorem dX5_readNumber_76 : decode cX5_readNumber 76 = .ok (.invokevirtual 39, 3) := by decide +kernel
theorem dX5_readNumber_79 : decode cX5_readNumber 79 = .ok (.ireturn, 1) := by decide +kernel
theorem dX5_readNumber_80 : decode cX5_readNumber 80 = .ok (.aload_n 0, 1) := by decide +kernel
theorem dX5_readNumber_81 : decode cX5_readNumber 81 = .ok (.getfield 18, 3) := by decide +kernel
theorem dX5_readNumber_84 : decode cX5_readNumber 84 = .ok (.iconst 1, 1) := by decide +kernel
theorem dX5_readNumber_85 : decode cX5_readNumber 85 = .ok (.iload_n 1, 1) := by decide +kernel
theorem dX5_readNumber_86 : decode cX5_readNumber 86 = .ok (.invokevirtual 65, 3) := by decide +kernel
theorem dX5_readNumber_89 : decode cX5_readNumber 89 = .ok (.pop, 1) := by decide +kernel
theorem dX5_readNumber_90 : decode cX5_readNumber 90 = .ok (.iconst 1, 1) := by decide +kernel
theorem dX5_readNumber_91 : decode cX5_readNumber 91 = .ok (.ireturn, 1) := by decide +kernel
theorem dX5_readParts_0 : decode cX5_readParts 0 = .ok (.aload_n 0, 1) := by decide +kernel
theorem dX5_readParts_1 : decode cX5_readParts 1 = .ok (.iload_n 1, 1) := by decide +kernel
theorem dX5_readParts_2 : decode cX5_readParts 2 = .ok (.invokevirtual 75, 3) := by decide +kernel
theorem dX5_readParts_5 : decode cX5_readParts 5 = .ok (.ifCond .ne 5, 3) := by decide +kernel
theorem dX5_readParts_8 : decode cX5_readParts 8 = .ok (.iconst 0, 1) := by decide +kernel
theorem dX5_readParts_9 : decode cX5_readParts 9 = .ok (.ireturn, 1) := by decide +kernel
theorem dX5_readParts_10 : decode cX5_readParts 10 = .ok (.iconst 0, 1) := by decide +kernel
theorem dX5_readParts_11 : decode cX5_readParts 11 = .ok (.istore_n 2, 1) := by decide +kernel
theorem dX5_readParts_12 : decode cX5_readParts 12 = .ok (.iload_n 2, 1) := by decide +kernel
theorem dX5_readParts_13 : decode cX5_readParts 13 = .ok (.sipush 300, 3) := by decide +kernel
theorem dX5_readParts_16 : decode cX5_readParts 16 = .ok (.if_icmp .ge 62, 3) := by decide +kernel
theorem dX5_readParts_19 : decode cX5_readParts 19 = .ok (.aload_n 0, 1) := by decide +kernel
theorem dX5_readParts_20 : decode cX5_readParts 20 = .ok (.getfield 9, 3) := by decide +kernel
theorem dX5_readParts_23 : decode cX5_readParts 23 = .ok (.invokevirtual 25, 3) := by decide +kernel
theorem dX5_readParts_26 : decode cX5_readParts 26 = .ok (.bipush 124, 2) := by decide +kernel
theorem dX5_readParts_28 : decode cX5_readParts 28 = .ok (.if_icmp .ne 50, 3) := by decide +kernel
theorem dX5_readParts_31 : decode cX5_readParts 31 = .ok (.aload_n 0, 1) := by decide +kernel
theorem dX5_readParts_32 : decode cX5_readParts 32 = .ok (.getfield 9, 3) := by decide +kernel
theorem dX5_readParts_35 : decode cX5_readParts 35 = .ok (.dup, 1) := by decide +kernel
theorem dX5_readParts_36 : decode cX5_readParts 36 = .ok (.getfield 35, 3) := by decide +kernel
theorem dX5_readParts_39 : decode cX5_readParts 39 = .ok (.iconst 1, 1) := by decide +kernel
theorem dX5_readParts_40 : decode cX5_readParts 40 = .ok (.iadd, 1) := by decide +kernel
theorem dX5_readParts_41 : decode cX5_readParts 41 = .ok (.putfield 35, 3) := by decide +kernel
theorem dX5_readParts_44 : decode cX5_readParts 44 = .ok (.aload_n 0, 1) := by decide +kernel
theorem dX5_readParts_45 : decode cX5_readParts 45 = .ok (.getfield 18, 3) := by decide +kernel
theorem dX5_readParts_48 : decode cX5_readParts 48 = .ok (.iconst 5, 1) := by decide +kernel
theorem dX5_readParts_49 : decode cX5_readParts 49 = .ok (.iconst 0, 1) := by decide +kernel
theorem dX5_readParts_50 : decode cX5_readParts 50 = .ok (.invokevirtual 65, 3) := by decide +kernel
theorem dX5_readParts_53 : decode cX5_readParts 53 = .ok (.istore_n 3, 1) := by decide +kernel
theorem dX5_readParts_54 : decode cX5_readParts 54 = .ok (.aload_n 0, 1) := by decide +kernel
theorem dX5_readParts_55 : decode cX5_readParts 55 = .ok (.iload_n 1, 1) := by decide +kernel
theorem dX5_readParts_56 : decode cX5_readParts 56 = .ok (.invokevirtual 75, 3) := by decide +kernel
theorem dX5_readParts_59 : decode cX5_readParts 59 = .ok (.ifCond .ne 5, 3) := by decide +kernel
theorem dX5_readParts_62 : decode cX5_readParts 62 = .ok (.iconst 0, 1) := by decide +kernel
theorem dX5_readParts_63 : decode cX5_readParts 63 = .ok (.ireturn, 1) := by decide +kernel
theorem dX5_readParts_64 : decode cX5_readParts 64 = .ok (.aload_n 0, 1) := by decide +kernel
theorem dX5_readParts_65 : decode cX5_readParts 65 = .ok (.getfield 18, 3) := by decide +kernel
theorem dX5_readParts_68 : decode cX5_readParts 68 = .ok (.iload_n 3, 1) := by decide +kernel
theorem dX5_readParts_69 : decode cX5_readParts 69 = .ok (.invokevirtual 78, 3) := by decide +kernel
theorem dX5_readParts_72 : decode cX5_readParts 72 = .ok (.iinc 2 1, 3) := by decide +kernel
theorem dX5_readParts_75 : decode cX5_readParts 75 = .ok (.goto (-63), 3) := by decide +kernel
theorem dX5_readParts_78 : decode cX5_readParts 78 = .ok (.iconst 1, 1) := by decide +kernel
theorem dX5_readParts_79 : decode cX5_readParts 79 = .ok (.ireturn, 1) := by decide +kernel
theorem dX5_readPiece_0 : decode cX5_readPiece 0 = .ok (.aload_n 0, 1) := by decide +kernel
theorem dX5_readPiece_1 : decode cX5_readPiece 1 = .ok (.getfield 9, 3) := by decide +kernel
theorem dX5_readPiece_4 : decode cX5_readPiece 4 = .ok (.invokevirtual 25, 3) := by decide +kernel
theorem dX5_readPiece_7 : decode cX5_readPiece 7 = .ok (.istore_n 2, 1) := by decide +kernel
theorem dX5_readPiece_8 : decode cX5_readPiece 8 = .ok (.iload_n 2, 1) := by decide +kernel
theorem dX5_readPiece_9 : decode cX5_readPiece 9 = .ok (.bipush 33, 2) := by decide +kernel
theorem dX5_readPiece_11 : decode cX5_readPiece 11 = .ok (.if_icmp .eq 9, 3) := by decide +kernel
theorem dX5_readPiece_14 : decode cX5_readPiece 14 = .ok (.iload_n 2, 1) := by decide +kernel
theorem dX5_readPiece_15 : decode cX5_readPiece 15 = .ok (.bipush 40, 2) := by decide +kernel
theorem dX5_readPiece_17 : decode cX5_readPiece 17 = .ok (.if_icmp .ne 92, 3) := by decide +kernel
theorem dX5_readPiece_20 : decode cX5_readPiece 20 = .ok (.iload_n 1, 1) := by decide +kernel
theorem dX5_readPiece_21 : decode cX5_readPiece 21 = .ok (.bipush 6, 2) := by decide +kernel
theorem dX5_readPiece_23 : decode cX5_readPiece 23 = .ok (.if_icmp .lt 19, 3) := by decide +kernel
theorem dX5_readPiece_26 : decode cX5_readPiece 26 = .ok (.aload_n 0, 1) := by decide +kernel
theorem dX5_readPiece_27 : decode cX5_readPiece 27 = .ok (.getfield 9, 3) := by decide +kernel
theorem dX5_readPiece_30 : decode cX5_readPiece 30 = .ok (.iconst 5, 1) := by decide +kernel
theorem dX5_readPiece_31 : decode cX5_readPiece 31 = .ok (.aload_n 0, 1) := by decide +kernel
theorem dX5_readPiece_32 : decode cX5_readPiece 32 = .ok (.getfield 9, 3) := by decide +kernel
theorem dX5_readPiece_35 : decode cX5_readPiece 35 = .ok (.getfield 35, 3) := by decide +kernel
theorem dX5_readPiece_38 : decode cX5_readPiece 38 = .ok (.invokevirtual 39, 3) := by decide +kernel
theorem dX5_readPiece_41 : decode cX5_readPiece 41 = .ok (.ireturn, 1) := by decide +kernel
theorem dX5_readPiece_42 : decode cX5_readPiece 42 = .ok (.aload_n 0, 1) := by decide +kernel
theorem dX5_readPiece_43 : decode cX5_readPiece 43 = .ok (.getfield 9, 3) := by decide +kernel
theorem dX5_readPiece_46 : decode cX5_readPiece 46 = .ok (.dup, 1) := by decide +kernel
theorem dX5_readPiece_47 : decode cX5_readPiece 47 = .ok (.getfield 35, 3) := by decide +kernel
theorem dX5_readPiece_50 : decode cX5_readPiece 50 = .ok (.iconst 1, 1) := by decide +kernel
theorem dX5_readPiece_51 : decode cX5_readPiece 51 = .ok (.iadd, 1) := by decide +kernel
theorem dX5_readPiece_52 : decode cX5_readPiece 52 = .ok (.putfield 35, 3) := by decide +kernel
theorem dX5_readPiece_55 : decode cX5_readPiece 55 = .ok (.iload_n 2, 1) := by decide +kernel
theorem dX5_readPiece_56 : decode cX5_readPiece 56 = .ok (.bipush 40, 2) := by decide +kernel
theorem dX5_readPiece_58 : decode cX5_readPiece 58 = .ok (.if_icmp .ne 31, 3) := by decide +kernel
theorem dX5_readPiece_61 : decode cX5_readPiece 61 = .ok (.aload_n 0, 1) := by decide +kernel
theorem dX5_readPiece_62 : decode cX5_readPiece 62 = .ok (.iload_n 1, 1) := by decide +kernel
theorem dX5_readPiece_63 : decode cX5_readPiece 63 = .ok (.iconst 1, 1) := by decide +kernel
theorem dX5_readPiece_64 : decode cX5_readPiece 64 = .ok (.iadd, 1) := by decide +kernel
theorem dX5_readPiece_65 : decode cX5_readPiece 65 = .ok (.invokevirtual 72, 3) := by decide +kernel
theorem dX5_readPiece_68 : decode cX5_readPiece 68 = .ok (.ifCond .eq 19, 3) := by decide +kernel
theorem dX5_readPiece_71 : decode cX5_readPiece 71 = .ok (.aload_n 0, 1) := by decide +kernel
theorem dX5_readPiece_72 : decode cX5_readPiece 72 = .ok (.getfield 9, 3) := by decide +kernel
theorem dX5_readPiece_75 : decode cX5_readPiece 75 = .ok (.bipush 41, 2) := by decide +kernel
theorem dX5_readPiece_77 : decode cX5_readPiece 77 = .ok (.invokevirtual 49, 3) := by decide +kernel
theorem dX5_readPiece_80 : decode cX5_readPiece 80 = .ok (.ifCond .eq 7, 3) := by decide +kernel
theorem dX5_readPiece_83 : decode cX5_readPiece 83 = .ok (.iconst 1, 1) := by decide +kernel
theorem dX5_readPiece_84 : decode cX5_readPiece 84 = .ok (.goto 4, 3) := by decide +kernel
theorem dX5_readPiece_87 : decode cX5_readPiece 87 = .ok (.iconst 0, 1) := by decide +kernel
theorem dX5_readPiece_88 : decode cX5_readPiece 88 = .ok (.ireturn, 1) := by decide +kernel
theorem dX5_readPiece_89 : decode cX5_readPiece 89 = .ok (.aload_n 0, 1) := by decide +kernel
theorem dX5_readPiece_90 : decode cX5_readPiece 90 = .ok (.iload_n 1, 1) := by decide +kernel
theorem dX5_readPiece_91 : decode cX5_readPiece 91 = .ok (.iconst 1, 1) := by decide +kernel
theorem dX5_readPiece_92 : decode cX5_readPiece 92 = .ok (.iadd, 1) := by decide +kernel
theorem dX5_readPiece_93 : decode cX5_readPiece 93 = .ok (.invokevirtual 82, 3) := by decide +kernel
theorem dX5_readPiece_96 : decode cX5_readPiece 96 = .ok (.istore_n 3, 1) := by decide +kernel
theorem dX5_readPiece_97 : decode cX5_readPiece 97 = .ok (.aload_n 0, 1) := by decide +kernel
theorem dX5_readPiece_98 : decode cX5_readPiece 98 = .ok (.getfield 18, 3) := by decide +kernel
theorem dX5_readPiece_101 : decode cX5_readPiece 101 = .ok (.iconst 3, 1) := by decide +kernel
theorem dX5_readPiece_102 : decode cX5_readPiece 102 = .ok (.iconst 0, 1) := by decide +kernel
theorem dX5_readPiece_103 : decode cX5_readPiece 103 = .ok (.invokevirtual 65, 3) := by decide +kernel
theorem dX5_readPiece_106 : decode cX5_readPiece 106 = .ok (.pop, 1) := by decide +kernel
theorem dX5_readPiece_107 : decode cX5_readPiece 107 = .ok (.iload_n 3, 1) := by decide +kernel
theorem dX5_readPiece_108 : decode cX5_readPiece 108 = .ok (.ireturn, 1) := by decide +kernel
theorem dX5_readPiece_109 : decode cX5_readPiece 109 = .ok (.aload_n 0, 1) := by decide +kernel
theorem dX5_readPiece_110 : decode cX5_readPiece 110 = .ok (.iload_n 1, 1) := by decide +kernel
theorem dX5_readPiece_111 : decode cX5_readPiece 111 = .ok (.invokevirtual 62, 3) := by decide +kernel
theorem dX5_readPiece_114 : decode cX5_readPiece 114 = .ok (.ifCond .ne 5, 3) := by decide +kernel
theorem dX5_readPiece_117 : decode cX5_readPiece 117 = .ok (.iconst 0, 1) := by decide +kernel
theorem dX5_readPiece_118 : decode cX5_readPiece 118 = .ok (.ireturn, 1) := by decide +kernel
theorem dX5_readPiece_119 : decode cX5_readPiece 119 = .ok (.aload_n 0, 1) := by decide +kernel
theorem dX5_readPiece_120 : decode cX5_readPiece 120 = .ok (.getfield 9, 3) := by decide +kernel
theorem dX5_readPiece_123 : decode cX5_readPiece 123 = .ok (.invokevirtual 25, 3) := by decide +kernel
theorem dX5_readPiece_126 : decode cX5_readPiece 126 = .ok (.istore_n 3, 1) := by decide +kernel
theorem dX5_readPiece_127 : decode cX5_readPiece 127 = .ok (.iload_n 3, 1) := by decide +kernel
theorem dX5_readPiece_128 : decode cX5_readPiece 128 = .ok (.bipush 60, 2) := by decide +kernel
theorem dX5_readPiece_130 : decode cX5_readPiece 130 = .ok (.if_icmp .eq 31, 3) := by decide +kernel
theorem dX5_readPiece_133 : decode cX5_readPiece 133 = .ok (.iload_n 3, 1) := by decide +kernel
theorem dX5_readPiece_134 : decode cX5_readPiece 134 = .ok (.bipush 62, 2) := by decide +kernel
theorem dX5_readPiece_136 : decode cX5_readPiece 136 = .ok (.if_icmp .eq 25, 3) := by decide +kernel
theorem dX5_readPiece_139 : decode cX5_readPiece 139 = .ok (.iload_n 3, 1) := by decide +kernel
theorem dX5_readPiece_140 : decode cX5_readPiece 140 = .ok (.bipush 61, 2) := by decide +kernel
theorem dX5_readPiece_142 : decode cX5_readPiece 142 = .ok (.if_icmp .eq 19, 3) := by decide +kernel
theorem dX5_readPiece_145 : decode cX5_readPiece 145 = .ok (.aload_n 0, 1) := by decide +kernel
theorem dX5_readPiece_146 : decode cX5_readPiece 146 = .ok (.getfield 9, 3) := by decide +kernel
theorem dX5_readPiece_149 : decode cX5_readPiece 149 = .ok (.iconst 1, 1) := by decide +kernel
theorem dX5_readPiece_150 : decode cX5_readPiece 150 = .ok (.aload_n 0, 1) := by decide +kernel
theorem dX5_readPiece_151 : decode cX5_readPiece 151 = .ok (.getfield 9, 3) := by decide +kernel
theorem dX5_readPiece_154 : decode cX5_readPiece 154 = .ok (.getfield 35, 3) := by decide +kernel
theorem dX5_readPiece_157 : decode cX5_readPiece 157 = .ok (.invokevirtual 39, 3) := by decide +kernel
theorem dX5_readPiece_160 : decode cX5_readPiece 160 = .ok (.ireturn, 1) := by decide +kernel
theorem dX5_readPiece_161 : decode cX5_readPiece 161 = .ok (.aload_n 0, 1) := by decide +kernel
theorem dX5_readPiece_162 : decode cX5_readPiece 162 = .ok (.getfield 9, 3) := by decide +kernel
theorem dX5_readPiece_165 : decode cX5_readPiece 165 = .ok (.dup, 1) := by decide +kernel
theorem dX5_readPiece_166 : decode cX5_readPiece 166 = .ok (.getfield 35, 3) := by decide +kernel
theorem dX5_readPiece_169 : decode cX5_readPiece 169 = .ok (.iconst 1, 1) := by decide +kernel
theorem dX5_readPiece_170 : decode cX5_readPiece 170 = .ok (.iadd, 1) := by decide +kernel
theorem dX5_readPiece_171 : decode cX5_readPiece 171 = .ok (.putfield 35, 3) := by decide +kernel
theorem dX5_readPiece_174 : decode cX5_readPiece 174 = .ok (.aload_n 0, 1) := by decide +kernel
theorem dX5_readPiece_175 : decode cX5_readPiece 175 = .ok (.iload_n 1, 1) := by decide +kernel
theorem dX5_readPiece_176 : decode cX5_readPiece 176 = .ok (.invokevirtual 62, 3) := by decide +kernel
theorem dX5_readPiece_179 : decode cX5_readPiece 179 = .ok (.istore 4, 2) := by decide +kernel
theorem dX5_readPiece_181 : decode cX5_readPiece 181 = .ok (.aload_n 0, 1) := by decide +kernel
theorem dX5_readPiece_182 : decode cX5_readPiece 182 = .ok (.getfield 18, 3) := by decide +kernel
theorem dX5_readPiece_185 : decode cX5_readPiece 185 = .ok (.iload_n 3, 1) := by decide +kernel
theorem dX5_readPiece_186 : decode cX5_readPiece 186 = .ok (.iconst 0, 1) := by decide +kernel
theorem dX5_readPiece_187 : decode cX5_readPiece 187 = .ok (.invokevirtual 65, 3) := by decide +kernel
theorem dX5_readPiece_190 : decode cX5_readPiece 190 = .ok (.pop, 1) := by decide +kernel
theorem dX5_readPiece_191 : decode cX5_readPiece 191 = .ok (.iload 4, 2) := by decide +kernel
theorem dX5_readPiece_193 : decode cX5_readPiece 193 = .ok (.ireturn, 1) := by decide +kernel
theorem dX5_readPieces_0 : decode cX5_readPieces 0 = .ok (.aload_n 0, 1) := by decide +kernel
theorem dX5_readPieces_1 : decode cX5_readPieces 1 = .ok (.iload_n 1, 1) := by decide +kernel
theorem dX5_readPieces_2 : decode cX5_readPieces 2 = .ok (.invokevirtual 82, 3) := by decide +kernel
theorem dX5_readPieces_5 : decode cX5_readPieces 5 = .ok (.ifCond .ne 5, 3) := by decide +kernel
theorem dX5_readPieces_8 : decode cX5_readPieces 8 = .ok (.iconst 0, 1) := by decide +kernel
theorem dX5_readPieces_9 : decode cX5_readPieces 9 = .ok (.ireturn, 1) := by decide +kernel
theorem dX5_readPieces_10 : decode cX5_readPieces 10 = .ok (.iconst 0, 1) := by decide +kernel
theorem dX5_readPieces_11 : decode cX5_readPieces 11 = .ok (.istore_n 2, 1) := by decide +kernel
theorem dX5_readPieces_12 : decode cX5_readPieces 12 = .ok (.iload_n 2, 1) := by decide +kernel
theorem dX5_readPieces_13 : decode cX5_readPieces 13 = .ok (.sipush 300, 3) := by decide +kernel
theorem dX5_readPieces_16 : decode cX5_readPieces 16 = .ok (.if_icmp .ge 62, 3) := by decide +kernel
theorem dX5_readPieces_19 : decode cX5_readPieces 19 = .ok (.aload_n 0, 1) := by decide +kernel
theorem dX5_readPieces_20 : decode cX5_readPieces 20 = .ok (.getfield 9, 3) := by decide +kernel
theorem dX5_readPieces_23 : decode cX5_readPieces 23 = .ok (.invokevirtual 25, 3) := by decide +kernel
theorem dX5_readPieces_26 : decode cX5_readPieces 26 = .ok (.bipush 38, 2) := by decide +kernel
theorem dX5_readPieces_28 : decode cX5_readPieces 28 = .ok (.if_icmp .ne 50, 3) := by decide +kernel
theorem dX5_readPieces_31 : decode cX5_readPieces 31 = .ok (.aload_n 0, 1) := by decide +kernel
theorem dX5_readPieces_32 : decode cX5_readPieces 32 = .ok (.getfield 9, 3) := by decide +kernel
theorem dX5_readPieces_35 : decode cX5_readPieces 35 = .ok (.dup, 1) := by decide +kernel
theorem dX5_readPieces_36 : decode cX5_readPieces 36 = .ok (.getfield 35, 3) := by decide +kernel
theorem dX5_readPieces_39 : decode cX5_readPieces 39 = .ok (.iconst 1, 1) := by decide +kernel
theorem dX5_readPieces_40 : decode cX5_readPieces 40 = .ok (.iadd, 1) := by decide +kernel
theorem dX5_readPieces_41 : decode cX5_readPieces 41 = .ok (.putfield 35, 3) := by decide +kernel
theorem dX5_readPieces_44 : decode cX5_readPieces 44 = .ok (.aload_n 0, 1) := by decide +kernel
theorem dX5_readPieces_45 : decode cX5_readPieces 45 = .ok (.getfield 18, 3) := by decide +kernel
theorem dX5_readPieces_48 : decode cX5_readPieces 48 = .ok (.iconst 4, 1) := by decide +kernel
theorem dX5_readPieces_49 : decode cX5_readPieces 49 = .ok (.iconst 0, 1) := by decide +kernel
theorem dX5_readPieces_50 : decode cX5_readPieces 50 = .ok (.invokevirtual 65, 3) := by decide +kernel
theorem dX5_readPieces_53 : decode cX5_readPieces 53 = .ok (.istore_n 3, 1) := by decide +kernel
theorem dX5_readPieces_54 : decode cX5_readPieces 54 = .ok (.aload_n 0, 1) := by decide +kernel
theorem dX5_readPieces_55 : decode cX5_readPieces 55 = .ok (.iload_n 1, 1) := by decide +kernel
theorem dX5_readPieces_56 : decode cX5_readPieces 56 = .ok (.invokevirtual 82, 3) := by decide +kernel
theorem dX5_readPieces_59 : decode cX5_readPieces 59 = .ok (.ifCond .ne 5, 3) := by decide +kernel
theorem dX5_readPieces_62 : decode cX5_readPieces 62 = .ok (.iconst 0, 1) := by decide +kernel
theorem dX5_readPieces_63 : decode cX5_readPieces 63 = .ok (.ireturn, 1) := by decide +kernel
theorem dX5_readPieces_64 : decode cX5_readPieces 64 = .ok (.aload_n 0, 1) := by decide +kernel
theorem dX5_readPieces_65 : decode cX5_readPieces 65 = .ok (.getfield 18, 3) := by decide +kernel
theorem dX5_readPieces_68 : decode cX5_readPieces 68 = .ok (.iload_n 3, 1) := by decide +kernel
theorem dX5_readPieces_69 : decode cX5_readPieces 69 = .ok (.invokevirtual 78, 3) := by decide +kernel
theorem dX5_readPieces_72 : decode cX5_readPieces 72 = .ok (.iinc 2 1, 3) := by decide +kernel
theorem dX5_readPieces_75 : decode cX5_readPieces 75 = .ok (.goto (-63), 3) := by decide +kernel
theorem dX5_readPieces_78 : decode cX5_readPieces 78 = .ok (.iconst 1, 1) := by decide +kernel
theorem dX5_readPieces_79 : decode cX5_readPieces 79 = .ok (.ireturn, 1) := by decide +kernel
theorem dX5_readSum_0 : decode cX5_readSum 0 = .ok (.aload_n 0, 1) := by decide +kernel
theorem dX5_readSum_1 : decode cX5_readSum 1 = .ok (.iload_n 1, 1) := by decide +kernel
theorem dX5_readSum_2 : decode cX5_readSum 2 = .ok (.invokevirtual 85, 3) := by decide +kernel
theorem dX5_readSum_5 : decode cX5_readSum 5 = .ok (.ifCond .ne 5, 3) := by decide +kernel
theorem dX5_readSum_8 : decode cX5_readSum 8 = .ok (.iconst 0, 1) := by decide +kernel
theorem dX5_readSum_9 : decode cX5_readSum 9 = .ok (.ireturn, 1) := by decide +kernel
theorem dX5_readSum_10 : decode cX5_readSum 10 = .ok (.iconst 0, 1) := by decide +kernel
theorem dX5_readSum_11 : decode cX5_readSum 11 = .ok (.istore_n 2, 1) := by decide +kernel
theorem dX5_readSum_12 : decode cX5_readSum 12 = .ok (.iload_n 2, 1) := by decide +kernel
theorem dX5_readSum_13 : decode cX5_readSum 13 = .ok (.sipush 300, 3) := by decide +kernel
theorem dX5_readSum_16 : decode cX5_readSum 16 = .ok (.if_icmp .ge 64, 3) := by decide +kernel
theorem dX5_readSum_19 : decode cX5_readSum 19 = .ok (.aload_n 0, 1) := by decide +kernel
theorem dX5_readSum_20 : decode cX5_readSum 20 = .ok (.getfield 9, 3) := by decide +kernel
theorem dX5_readSum_23 : decode cX5_readSum 23 = .ok (.invokevirtual 25, 3) := by decide +kernel
theorem dX5_readSum_26 : decode cX5_readSum 26 = .ok (.istore_n 3, 1) := by decide +kernel
theorem dX5_readSum_27 : decode cX5_readSum 27 = .ok (.iload_n 3, 1) := by decide +kernel
theorem dX5_readSum_28 : decode cX5_readSum 28 = .ok (.bipush 43, 2) := by decide +kernel
theorem dX5_readSum_30 : decode cX5_readSum 30 = .ok (.if_icmp .eq 11, 3) := by decide +kernel
theorem dX5_readSum_33 : decode cX5_readSum 33 = .ok (.iload_n 3, 1) := by decide +kernel
theorem dX5_readSum_34 : decode cX5_readSum 34 = .ok (.bipush 45, 2) := by decide +kernel
theorem dX5_readSum_36 : decode cX5_readSum 36 = .ok (.if_icmp .eq 5, 3) := by decide +kernel
theorem dX5_readSum_39 : decode cX5_readSum 39 = .ok (.iconst 1, 1) := by decide +kernel
theorem dX5_readSum_40 : decode cX5_readSum 40 = .ok (.ireturn, 1) := by decide +kernel
theorem dX5_readSum_41 : decode cX5_readSum 41 = .ok (.aload_n 0, 1) := by decide +kernel
theorem dX5_readSum_42 : decode cX5_readSum 42 = .ok (.getfield 9, 3) := by decide +kernel
theorem dX5_readSum_45 : decode cX5_readSum 45 = .ok (.dup, 1) := by decide +kernel
theorem dX5_readSum_46 : decode cX5_readSum 46 = .ok (.getfield 35, 3) := by decide +kernel
theorem dX5_readSum_49 : decode cX5_readSum 49 = .ok (.iconst 1, 1) := by decide +kernel
theorem dX5_readSum_50 : decode cX5_readSum 50 = .ok (.iadd, 1) := by decide +kernel
theorem dX5_readSum_51 : decode cX5_readSum 51 = .ok (.putfield 35, 3) := by decide +kernel
theorem dX5_readSum_54 : decode cX5_readSum 54 = .ok (.aload_n 0, 1) := by decide +kernel
theorem dX5_readSum_55 : decode cX5_readSum 55 = .ok (.iload_n 1, 1) := by decide +kernel
theorem dX5_readSum_56 : decode cX5_readSum 56 = .ok (.invokevirtual 85, 3) := by decide +kernel
theorem dX5_readSum_59 : decode cX5_readSum 59 = .ok (.ifCond .ne 5, 3) := by decide +kernel
theorem dX5_readSum_62 : decode cX5_readSum 62 = .ok (.iconst 0, 1) := by decide +kernel
theorem dX5_readSum_63 : decode cX5_readSum 63 = .ok (.ireturn, 1) := by decide +kernel
theorem dX5_readSum_64 : decode cX5_readSum 64 = .ok (.aload_n 0, 1) := by decide +kernel
theorem dX5_readSum_65 : decode cX5_readSum 65 = .ok (.getfield 18, 3) := by decide +kernel
theorem dX5_readSum_68 : decode cX5_readSum 68 = .ok (.iload_n 3, 1) := by decide +kernel
theorem dX5_readSum_69 : decode cX5_readSum 69 = .ok (.iconst 0, 1) := by decide +kernel
theorem dX5_readSum_70 : decode cX5_readSum 70 = .ok (.invokevirtual 65, 3) := by decide +kernel
theorem dX5_readSum_73 : decode cX5_readSum 73 = .ok (.pop, 1) := by decide +kernel
theorem dX5_readSum_74 : decode cX5_readSum 74 = .ok (.iinc 2 1, 3) := by decide +kernel
theorem dX5_readSum_77 : decode cX5_readSum 77 = .ok (.goto (-65), 3) := by decide +kernel
theorem dX5_readTerm_0 : decode cX5_readTerm 0 = .ok (.aload_n 0, 1) := by decide +kernel
theorem dX5_readTerm_1 : decode cX5_readTerm 1 = .ok (.iload_n 1, 1) := by decide +kernel
theorem dX5_readTerm_2 : decode cX5_readTerm 2 = .ok (.invokevirtual 88, 3) := by decide +kernel
theorem dX5_readTerm_5 : decode cX5_readTerm 5 = .ok (.ifCond .ne 5, 3) := by decide +kernel
theorem dX5_readTerm_8 : decode cX5_readTerm 8 = .ok (.iconst 0, 1) := by decide +kernel
theorem dX5_readTerm_9 : decode cX5_readTerm 9 = .ok (.ireturn, 1) := by decide +kernel
theorem dX5_readTerm_10 : decode cX5_readTerm 10 = .ok (.iconst 0, 1) := by decide +kernel
theorem dX5_readTerm_11 : decode cX5_readTerm 11 = .ok (.istore_n 2, 1) := by decide +kernel
theorem dX5_readTerm_12 : decode cX5_readTerm 12 = .ok (.iload_n 2, 1) := by decide +kernel
theorem dX5_readTerm_13 : decode cX5_readTerm 13 = .ok (.sipush 300, 3) := by decide +kernel
theorem dX5_readTerm_16 : decode cX5_readTerm 16 = .ok (.if_icmp .ge 70, 3) := by decide +kernel
theorem dX5_readTerm_19 : decode cX5_readTerm 19 = .ok (.aload_n 0, 1) := by decide +kernel
theorem dX5_readTerm_20 : decode cX5_readTerm 20 = .ok (.getfield 9, 3) := by decide +kernel
theorem dX5_readTerm_23 : decode cX5_readTerm 23 = .ok (.invokevirtual 25, 3) := by decide +kernel
theorem dX5_readTerm_26 : decode cX5_readTerm 26 = .ok (.istore_n 3, 1) := by decide +kernel
theorem dX5_readTerm_27 : decode cX5_readTerm 27 = .ok (.iload_n 3, 1) := by decide +kernel
theorem dX5_readTerm_28 : decode cX5_readTerm 28 = .ok (.bipush 42, 2) := by decide +kernel
theorem dX5_readTerm_30 : decode cX5_readTerm 30 = .ok (.if_icmp .eq 17, 3) := by decide +kernel
theorem dX5_readTerm_33 : decode cX5_readTerm 33 = .ok (.iload_n 3, 1) := by decide +kernel
theorem dX5_readTerm_34 : decode cX5_readTerm 34 = .ok (.bipush 47, 2) := by decide +kernel
theorem dX5_readTerm_36 : decode cX5_readTerm 36 = .ok (.if_icmp .eq 11, 3) := by decide +kernel
theorem dX5_readTerm_39 : decode cX5_readTerm 39 = .ok (.iload_n 3, 1) := by decide +kernel
theorem dX5_readTerm_40 : decode cX5_readTerm 40 = .ok (.bipush 37, 2) := by decide +kernel
theorem dX5_readTerm_42 : decode cX5_readTerm 42 = .ok (.if_icmp .eq 5, 3) := by decide +kernel
theorem dX5_readTerm_45 : decode cX5_readTerm 45 = .ok (.iconst 1, 1) := by decide +kernel
theorem dX5_readTerm_46 : decode cX5_readTerm 46 = .ok (.ireturn, 1) := by decide +kernel
theorem dX5_readTerm_47 : decode cX5_readTerm 47 = .ok (.aload_n 0, 1) := by decide +kernel
theorem dX5_readTerm_48 : decode cX5_readTerm 48 = .ok (.getfield 9, 3) := by decide +kernel
theorem dX5_readTerm_51 : decode cX5_readTerm 51 = .ok (.dup, 1) := by decide +kernel
theorem dX5_readTerm_52 : decode cX5_readTerm 52 = .ok (.getfield 35, 3) := by decide +kernel
theorem dX5_readTerm_55 : decode cX5_readTerm 55 = .ok (.iconst 1, 1) := by decide +kernel
theorem dX5_readTerm_56 : decode cX5_readTerm 56 = .ok (.iadd, 1) := by decide +kernel
theorem dX5_readTerm_57 : decode cX5_readTerm 57 = .ok (.putfield 35, 3) := by decide +kernel
theorem dX5_readTerm_60 : decode cX5_readTerm 60 = .ok (.aload_n 0, 1) := by decide +kernel
theorem dX5_readTerm_61 : decode cX5_readTerm 61 = .ok (.iload_n 1, 1) := by decide +kernel
theorem dX5_readTerm_62 : decode cX5_readTerm 62 = .ok (.invokevirtual 88, 3) := by decide +kernel
theorem dX5_readTerm_65 : decode cX5_readTerm 65 = .ok (.ifCond .ne 5, 3) := by decide +kernel
theorem dX5_readTerm_68 : decode cX5_readTerm 68 = .ok (.iconst 0, 1) := by decide +kernel
theorem dX5_readTerm_69 : decode cX5_readTerm 69 = .ok (.ireturn, 1) := by decide +kernel
theorem dX5_readTerm_70 : decode cX5_readTerm 70 = .ok (.aload_n 0, 1) := by decide +kernel
theorem dX5_readTerm_71 : decode cX5_readTerm 71 = .ok (.getfield 18, 3) := by decide +kernel
theorem dX5_readTerm_74 : decode cX5_readTerm 74 = .ok (.iload_n 3, 1) := by decide +kernel
theorem dX5_readTerm_75 : decode cX5_readTerm 75 = .ok (.iconst 0, 1) := by decide +kernel
theorem dX5_readTerm_76 : decode cX5_readTerm 76 = .ok (.invokevirtual 65, 3) := by decide +kernel
theorem dX5_readTerm_79 : decode cX5_readTerm 79 = .ok (.pop, 1) := by decide +kernel
theorem dX5_readTerm_80 : decode cX5_readTerm 80 = .ok (.iinc 2 1, 3) := by decide +kernel
theorem dX5_readTerm_83 : decode cX5_readTerm 83 = .ok (.goto (-71), 3) := by decide +kernel
theorem dX5_readWhole_0 : decode cX5_readWhole 0 = .ok (.aload_n 0, 1) := by decide +kernel
theorem dX5_readWhole_1 : decode cX5_readWhole 1 = .ok (.getfield 18, 3) := by decide +kernel
theorem dX5_readWhole_4 : decode cX5_readWhole 4 = .ok (.invokevirtual 22, 3) := by decide +kernel
theorem dX5_readWhole_7 : decode cX5_readWhole 7 = .ok (.iconst 0, 1) := by decide +kernel
theorem dX5_readWhole_8 : decode cX5_readWhole 8 = .ok (.istore_n 1, 1) := by decide +kernel
theorem dX5_readWhole_9 : decode cX5_readWhole 9 = .ok (.iload_n 1, 1) := by decide +kernel
theorem dX5_readWhole_10 : decode cX5_readWhole 10 = .ok (.bipush 16, 2) := by decide +kernel
theorem dX5_readWhole_12 : decode cX5_readWhole 12 = .ok (.if_icmp .gt 123, 3) := by decide +kernel
theorem dX5_readWhole_15 : decode cX5_readWhole 15 = .ok (.aload_n 0, 1) := by decide +kernel
theorem dX5_readWhole_16 : decode cX5_readWhole 16 = .ok (.getfield 9, 3) := by decide +kernel
theorem dX5_readWhole_19 : decode cX5_readWhole 19 = .ok (.invokevirtual 25, 3) := by decide +kernel
theorem dX5_readWhole_22 : decode cX5_readWhole 22 = .ok (.istore_n 2, 1) := by decide +kernel
theorem dX5_readWhole_23 : decode cX5_readWhole 23 = .ok (.iload_n 2, 1) := by decide +kernel
theorem dX5_readWhole_24 : decode cX5_readWhole 24 = .ok (.invokestatic 31, 3) := by decide +kernel
theorem dX5_readWhole_27 : decode cX5_readWhole 27 = .ok (.ifCond .ne 19, 3) := by decide +kernel
theorem dX5_readWhole_30 : decode cX5_readWhole 30 = .ok (.aload_n 0, 1) := by decide +kernel
theorem dX5_readWhole_31 : decode cX5_readWhole 31 = .ok (.getfield 9, 3) := by decide +kernel
theorem dX5_readWhole_34 : decode cX5_readWhole 34 = .ok (.iconst 1, 1) := by decide +kernel
theorem dX5_readWhole_35 : decode cX5_readWhole 35 = .ok (.aload_n 0, 1) := by decide +kernel
theorem dX5_readWhole_36 : decode cX5_readWhole 36 = .ok (.getfield 9, 3) := by decide +kernel
theorem dX5_readWhole_39 : decode cX5_readWhole 39 = .ok (.getfield 35, 3) := by decide +kernel
theorem dX5_readWhole_42 : decode cX5_readWhole 42 = .ok (.invokevirtual 39, 3) := by decide +kernel
theorem dX5_readWhole_45 : decode cX5_readWhole 45 = .ok (.ireturn, 1) := by decide +kernel
theorem dX5_readWhole_46 : decode cX5_readWhole 46 = .ok (.iload_n 1, 1) := by decide +kernel
theorem dX5_readWhole_47 : decode cX5_readWhole 47 = .ok (.bipush 16, 2) := by decide +kernel
theorem dX5_readWhole_49 : decode cX5_readWhole 49 = .ok (.if_icmp .ne 19, 3) := by decide +kernel
theorem dX5_readWhole_52 : decode cX5_readWhole 52 = .ok (.aload_n 0, 1) := by decide +kernel
theorem dX5_readWhole_53 : decode cX5_readWhole 53 = .ok (.getfield 9, 3) := by decide +kernel
theorem dX5_readWhole_56 : decode cX5_readWhole 56 = .ok (.iconst 4, 1) := by decide +kernel
theorem dX5_readWhole_57 : decode cX5_readWhole 57 = .ok (.aload_n 0, 1) := by decide +kernel
theorem dX5_readWhole_58 : decode cX5_readWhole 58 = .ok (.getfield 9, 3) := by decide +kernel
theorem dX5_readWhole_61 : decode cX5_readWhole 61 = .ok (.getfield 35, 3) := by decide +kernel
theorem dX5_readWhole_64 : decode cX5_readWhole 64 = .ok (.invokevirtual 39, 3) := by decide +kernel
theorem dX5_readWhole_67 : decode cX5_readWhole 67 = .ok (.ireturn, 1) := by decide +kernel
theorem dX5_readWhole_68 : decode cX5_readWhole 68 = .ok (.aload_n 0, 1) := by decide +kernel
theorem dX5_readWhole_69 : decode cX5_readWhole 69 = .ok (.getfield 9, 3) := by decide +kernel
theorem dX5_readWhole_72 : decode cX5_readWhole 72 = .ok (.dup, 1) := by decide +kernel
theorem dX5_readWhole_73 : decode cX5_readWhole 73 = .ok (.getfield 35, 3) := by decide +kernel
theorem dX5_readWhole_76 : decode cX5_readWhole 76 = .ok (.iconst 1, 1) := by decide +kernel
theorem dX5_readWhole_77 : decode cX5_readWhole 77 = .ok (.iadd, 1) := by decide +kernel
theorem dX5_readWhole_78 : decode cX5_readWhole 78 = .ok (.putfield 35, 3) := by decide +kernel
theorem dX5_readWhole_81 : decode cX5_readWhole 81 = .ok (.aload_n 0, 1) := by decide +kernel
theorem dX5_readWhole_82 : decode cX5_readWhole 82 = .ok (.iload_n 2, 1) := by decide +kernel
theorem dX5_readWhole_83 : decode cX5_readWhole 83 = .ok (.iload_n 1, 1) := by decide +kernel
theorem dX5_readWhole_84 : decode cX5_readWhole 84 = .ok (.invokevirtual 43, 3) := by decide +kernel
theorem dX5_readWhole_87 : decode cX5_readWhole 87 = .ok (.ifCond .ne 5, 3) := by decide +kernel
theorem dX5_readWhole_90 : decode cX5_readWhole 90 = .ok (.iconst 0, 1) := by decide +kernel
theorem dX5_readWhole_91 : decode cX5_readWhole 91 = .ok (.ireturn, 1) := by decide +kernel
theorem dX5_readWhole_92 : decode cX5_readWhole 92 = .ok (.aload_n 0, 1) := by decide +kernel
theorem dX5_readWhole_93 : decode cX5_readWhole 93 = .ok (.getfield 18, 3) := by decide +kernel
theorem dX5_readWhole_96 : decode cX5_readWhole 96 = .ok (.iload_n 1, 1) := by decide +kernel
theorem dX5_readWhole_97 : decode cX5_readWhole 97 = .ok (.iconst 1, 1) := by decide +kernel
theorem dX5_readWhole_98 : decode cX5_readWhole 98 = .ok (.iadd, 1) := by decide +kernel
theorem dX5_readWhole_99 : decode cX5_readWhole 99 = .ok (.putfield 46, 3) := by decide +kernel
theorem dX5_readWhole_102 : decode cX5_readWhole 102 = .ok (.aload_n 0, 1) := by decide +kernel
theorem dX5_readWhole_103 : decode cX5_readWhole 103 = .ok (.getfield 9, 3) := by decide +kernel
theorem dX5_readWhole_106 : decode cX5_readWhole 106 = .ok (.invokevirtual 25, 3) := by decide +kernel
theorem dX5_readWhole_109 : decode cX5_readWhole 109 = .ok (.iconst (-1), 1) := by decide +kernel
theorem dX5_readWhole_110 : decode cX5_readWhole 110 = .ok (.if_icmp .ne 5, 3) := by decide +kernel
theorem dX5_readWhole_113 : decode cX5_readWhole 113 = .ok (.iconst 1, 1) := by decide +kernel
theorem dX5_readWhole_114 : decode cX5_readWhole 114 = .ok (.ireturn, 1) := by decide +kernel
theorem dX5_readWhole_115 : decode cX5_readWhole 115 = .ok (.aload_n 0, 1) := by decide +kernel
theorem dX5_readWhole_116 : decode cX5_readWhole 116 = .ok (.getfield 9, 3) := by decide +kernel
theorem dX5_readWhole_119 : decode cX5_readWhole 119 = .ok (.bipush 59, 2) := by decide +kernel
theorem dX5_readWhole_121 : decode cX5_readWhole 121 = .ok (.invokevirtual 49, 3) := by decide +kernel
theorem dX5_readWhole_124 : decode cX5_readWhole 124 = .ok (.ifCond .ne 5, 3) := by decide +kernel
theorem dX5_readWhole_127 : decode cX5_readWhole 127 = .ok (.iconst 0, 1) := by decide +kernel
theorem dX5_readWhole_128 : decode cX5_readWhole 128 = .ok (.ireturn, 1) := by decide +kernel
theorem dX5_readWhole_129 : decode cX5_readWhole 129 = .ok (.iinc 1 1, 3) := by decide +kernel
theorem dX5_readWhole_132 : decode cX5_readWhole 132 = .ok (.goto (-123), 3) := by decide +kernel
