set_option maxHeartbeats 4000000 in
set_option maxRecDepth 100000 in
theorem c_X11_repeats (l : Launch) (D : va_G) (g : xG) (T : Nat × Nat × Nat) (h0 : Nat) (s0 : xS) (hσ : xRR s0) (a : Int) (ra : xR a) (b : Int) (rb : xR b) (q : Int) (rq : xR q) (ha0 : 0 ≤ a ∧ a ≤ s0 268 34 ∧ s0 268 34 ≤ 60) (hb0 : 1 ≤ b ∧ b ≤ 9) (p0 : IMn s0) (p1 : IMk s0) (p2 : IMo s0) (p3 : IR s0) : Met l yX11_repeats (xws yX11_repeats cX11_repeats 6 (some .boolean)) { frames := 1, cells := 0, slots := 0, locals := 22 } (xP [.ref (h0 + 268), .int (xJ a), .int (xJ b), .int (xJ q)] D g T h0 s0) (xQi D g h0 (fun r τ => xFr (fun k => k = 268 ∨ k = 289) s0 τ ∧ (((IMn τ) ∧ (IMk τ) ∧ (IMo τ) ∧ (IR τ) ∧ (τ 268 8 = s0 268 8) ∧ (τ 268 58 = s0 268 58) ∧ (τ 268 9 = s0 268 9) ∧ (τ 268 10 = s0 268 10) ∧ (τ 268 14 = s0 268 14) ∧ (τ 268 15 = s0 268 15) ∧ (τ 268 16 = s0 268 16) ∧ (τ 268 35 = s0 268 35) ∧ (τ 268 36 = s0 268 36) ∧ (τ 268 37 = s0 268 37) ∧ True) ∧ (r = 0 ∨ (r = 1 ∧ s0 268 34 ≤ τ 268 34 ∧ τ 268 34 ≤ 60))))) 0 0 (xA h0) := by
  refine x_met hσ (by decide) (Nat.le_of_ble_eq_true rfl) ?_
  intro p e s m args below meth c hx hb hr hml hown hT hlk hnm hE hW ls hl
  have hl : lv_has ls 6 [(0, .ref (h0 + 268)), (1, .int (xJ a)), (2, .int (xJ b)), (3, .int (xJ q))] := hl
  obtain ⟨Q, eQ⟩ : ∃ Q, Q = MQ below (xQi D g h0 (fun r τ => xFr (fun k => k = 268 ∨ k = 289) s0 τ ∧ (((IMn τ) ∧ (IMk τ) ∧ (IMo τ) ∧ (IR τ) ∧ (τ 268 8 = s0 268 8) ∧ (τ 268 58 = s0 268 58) ∧ (τ 268 9 = s0 268 9) ∧ (τ 268 10 = s0 268 10) ∧ (τ 268 14 = s0 268 14) ∧ (τ 268 15 = s0 268 15) ∧ (τ 268 16 = s0 268 16) ∧ (τ 268 35 = s0 268 35) ∧ (τ 268 36 = s0 268 36) ∧ (τ 268 37 = s0 268 37) ∧ True) ∧ (r = 0 ∨ (r = 1 ∧ s0 268 34 ≤ τ 268 34 ∧ τ 268 34 ≤ 60))))) args s 0 0 (xA h0) := ⟨_, rfl⟩
  rw [← eQ]
  generalize hHe : ([] : List Loc) = locs at hW ⊢
  obtain ⟨H, eH⟩ : ∃ H, H = s.heap := ⟨_, rfl⟩
  rw [← eH] at hW ⊢
  have hF : xFr (fun k => k = 268 ∨ k = 289) s0 s0 := xFr.rf
  have k268_8 : s0 268 8 = s0 268 8 := rfl
  have k268_58 : s0 268 58 = s0 268 58 := rfl
  have k268_9 : s0 268 9 = s0 268 9 := rfl
  have k268_10 : s0 268 10 = s0 268 10 := rfl
  have k268_14 : s0 268 14 = s0 268 14 := rfl
  have k268_15 : s0 268 15 = s0 268 15 := rfl
  have k268_16 : s0 268 16 = s0 268 16 := rfl
  have k268_35 : s0 268 35 = s0 268 35 := rfl
  have k268_36 : s0 268 36 = s0 268 36 := rfl
  have k268_37 : s0 268 37 = s0 268 37 := rfl
  have k268_34 : s0 268 34 = s0 268 34 := rfl
  refine x_aload_n hx hb hl 0 rfl dX11_repeats_0 rfl ?_
  refine x_get (j := 34) (v := .int (xJ (s0 268 34))) hx hb hown hT hE hW cls_X11 (Or.inl (by decide)) (so_268 h0 g _) (by decide) rfl wq1219 dX11_repeats_1 ?_
  refine x_rd hW (fun x1 ex1 rx1 => ?_)
  have fx1 : x1 = s0 268 34 := ex1.trans k268_34
  refine x_iload_n hx hb hl 1 rfl dX11_repeats_4 rfl ?_
  refine x_isub hx hb dX11_repeats_5 ?_
  refine x_nm (fun x2 ex2 => ?_)
  refine lv_istore (lv' := [(4, .int (xJ x2)), (0, .ref (h0 + 268)), (1, .int (xJ a)), (2, .int (xJ b)), (3, .int (xJ q))]) hx hb dX11_repeats_6 hl (by decide) rfl (fun ls hl => ?_)
  have mb := xmulr (by omega : 0 ≤ x2) hb0
  refine x_iload_n hx hb hl 2 rfl dX11_repeats_8 rfl ?_
  refine x_iload hx hb hl 0 rfl dX11_repeats_9 ?_
  refine x_iload_n hx hb hl 3 rfl dX11_repeats_11 rfl ?_
  refine x_imul hx hb dX11_repeats_12 ?_
  refine x_iadd hx hb dX11_repeats_13 ?_
  refine x_bipush hx hb dX11_repeats_14 (by decide) ?_
  refine x_icmp_le (tgt := 27) hx hb (by omega) (by decide) dX11_repeats_16 (by decide) (fun c3 => ?_) (fun c3 => ?_)
  · skip
    refine x_iload hx hb hl 0 rfl dX11_repeats_27 ?_
    refine lv_istore (lv' := [(5, .int (xJ x2)), (4, .int (xJ x2)), (0, .ref (h0 + 268)), (1, .int (xJ a)), (2, .int (xJ b)), (3, .int (xJ q))]) hx hb dX11_repeats_29 hl (by decide) rfl (fun ls hl => ?_)
    have L31 : ∀ (fu : Nat) (i5_31 : Int) (s_31 : xS) (H : Heap) (locs : List Loc) (ls : Array Slot), (xR i5_31) → (xFr (fun k => k = 268 ∨ k = 289) s0 s_31) → (IMn s_31) → (IMk s_31) → (IMo s_31) → (IR s_31) → (s_31 268 8 = s0 268 8) → (s_31 268 58 = s0 268 58) → (s_31 268 9 = s0 268 9) → (s_31 268 10 = s0 268 10) → (s_31 268 14 = s0 268 14) → (s_31 268 15 = s0 268 15) → (s_31 268 16 = s0 268 16) → (s_31 268 35 = s0 268 35) → (s_31 268 36 = s0 268 36) → (s_31 268 37 = s0 268 37) → (s_31 268 34 = s0 268 34) → (x2 ≤ i5_31) → (x2 * b - i5_31).toNat < fu → xW D g h0 s H locs s_31 → lv_has ls 6 [(0, .ref (h0 + 268)), (1, .int (xJ a)), (2, .int (xJ b)), (4, .int (xJ x2)), (5, .int (xJ i5_31))] → W p l e { frames := 1, cells := 0, slots := 0, locals := 22 } s m args below meth c H locs 0 0 Q (F0 m 31 ls []) := by
      intro fu
      induction fu with
      | zero => intro i5_31 s_31 H locs ls ri5_31 hF_31 q31_0 q31_1 q31_2 q31_3 q31_4 q31_5 q31_6 q31_7 q31_8 q31_9 q31_10 q31_11 q31_12 q31_13 q31_14 v31_0 hm; exact absurd hm (Nat.not_lt_zero _)
      | succ fu ih31 =>
        intro i5_31 s_31 H locs ls ri5_31 hF_31 q31_0 q31_1 q31_2 q31_3 q31_4 q31_5 q31_6 q31_7 q31_8 q31_9 q31_10 q31_11 q31_12 q31_13 q31_14 v31_0 hm hW hl
        refine x_iload hx hb hl 4 rfl dX11_repeats_31 ?_
        refine x_iload hx hb hl 3 rfl dX11_repeats_33 ?_
        refine x_iload_n hx hb hl 2 rfl dX11_repeats_35 rfl ?_
        refine x_imul hx hb dX11_repeats_36 ?_
        refine x_icmp_ge (tgt := 67) hx hb ri5_31 (by omega) dX11_repeats_37 (by decide) (fun c4 => ?_) (fun c4 => ?_)
        · skip
          refine x_aload_n hx hb hl 0 rfl dX11_repeats_67 rfl ?_
          refine x_iload_n hx hb hl 1 rfl dX11_repeats_68 rfl ?_
          refine x_iload hx hb hl 3 rfl dX11_repeats_69 ?_
          refine x_iload_n hx hb hl 2 rfl dX11_repeats_71 rfl ?_
          refine x_imul hx hb dX11_repeats_72 ?_
          refine x_iadd hx hb dX11_repeats_73 ?_
          refine x_put (j := 34) hx hb hown hT hE hW cls_X11 (by decide) (fun σ => so_268 h0 g σ) (by decide) (st_X11_34 h0 s_31 268 (a + (x2 * b))) (ln_X11_34 h0 _ _) wq1219 rfl rfl rfl (by omega) dX11_repeats_74 (fun H locs s5 es5 hW => ?_)
          have q6 : IMn s5 := by rw [es5]; exact IMn_268 q31_0 (by omega)
          have q7 : IMk s5 := by rw [es5]; exact IMk_268 q31_1 (by omega)
          have q8 : IMo s5 := by rw [es5]; exact IMo_o (by unfold suIMo; omega) q31_2
          have q9 : IR s5 := by rw [es5]; exact IR_268 q31_3 (by omega)
          have q10 : s5 268 8 = s0 268 8 := (show s5 268 8 = s_31 268 8 from by rw [es5, xU_j _ _ (by decide)]).trans q31_4
          have q11 : s5 268 58 = s0 268 58 := (show s5 268 58 = s_31 268 58 from by rw [es5, xU_j _ _ (by decide)]).trans q31_5
          have q12 : s5 268 9 = s0 268 9 := (show s5 268 9 = s_31 268 9 from by rw [es5, xU_j _ _ (by decide)]).trans q31_6
          have q13 : s5 268 10 = s0 268 10 := (show s5 268 10 = s_31 268 10 from by rw [es5, xU_j _ _ (by decide)]).trans q31_7
          have q14 : s5 268 14 = s0 268 14 := (show s5 268 14 = s_31 268 14 from by rw [es5, xU_j _ _ (by decide)]).trans q31_8
          have q15 : s5 268 15 = s0 268 15 := (show s5 268 15 = s_31 268 15 from by rw [es5, xU_j _ _ (by decide)]).trans q31_9
          have q16 : s5 268 16 = s0 268 16 := (show s5 268 16 = s_31 268 16 from by rw [es5, xU_j _ _ (by decide)]).trans q31_10
          have q17 : s5 268 35 = s0 268 35 := (show s5 268 35 = s_31 268 35 from by rw [es5, xU_j _ _ (by decide)]).trans q31_11
          have q18 : s5 268 36 = s0 268 36 := (show s5 268 36 = s_31 268 36 from by rw [es5, xU_j _ _ (by decide)]).trans q31_12
          have q19 : s5 268 37 = s0 268 37 := (show s5 268 37 = s_31 268 37 from by rw [es5, xU_j _ _ (by decide)]).trans q31_13
          have q20 : s5 268 34 = (a + (x2 * b)) := by rw [es5, xU_s]
          have hF21 := hF_31.put es5 (by omega)
          refine x_iconst hx hb dX11_repeats_77 ?_
          rw [eQ]
          exact x_zret hx hb hr hlk hW (by omega) ⟨hF21, ⟨q6, q7, q8, q9, q10, q11, q12, q13, q14, q15, q16, q17, q18, q19, trivial⟩, by omega⟩ dX11_repeats_78
        refine x_aload_n hx hb hl 0 rfl dX11_repeats_40 rfl ?_
        refine x_get (j := 30) (v := .ref (h0 + 289)) hx hb hown hT hE hW cls_X11 (Or.inl (by decide)) (so_268 h0 g _) (by decide) rfl wq1215 dX11_repeats_41 ?_
        refine x_iload_n hx hb hl 1 rfl dX11_repeats_44 rfl ?_
        refine x_iload hx hb hl 4 rfl dX11_repeats_45 ?_
        refine x_iadd hx hb dX11_repeats_47 ?_
        refine x_aload_n hx hb hl 0 rfl dX11_repeats_48 rfl ?_
        refine x_get (j := 30) (v := .ref (h0 + 289)) hx hb hown hT hE hW cls_X11 (Or.inl (by decide)) (so_268 h0 g _) (by decide) rfl wq1215 dX11_repeats_49 ?_
        refine x_iload_n hx hb hl 1 rfl dX11_repeats_52 rfl ?_
        refine x_iload hx hb hl 4 rfl dX11_repeats_53 ?_
        refine x_iadd hx hb dX11_repeats_55 ?_
        refine x_iload hx hb hl 3 rfl dX11_repeats_56 ?_
        refine x_isub hx hb dX11_repeats_58 ?_
        refine x_bald hx hb hE hW (Or.inl (by decide)) (sa_289 h0 g _) (by omega) (by decide) dX11_repeats_59 ?_
        refine x_rd hW (fun x22 ex22 rx22 => ?_)
        obtain ⟨y24, ey24, ry24⟩ := xnb x22
        refine x_bast (w := y24) hx hb hE hW (by decide) (fun σ => sa_289 h0 g σ) (by omega) (by decide) ey24 ry24 dX11_repeats_60 (fun H locs s23 es23 hW => ?_)
        have q25 : IMn s23 := by rw [es23]; exact IMn_o (by unfold suIMn; omega) q31_0
        have q26 : IMk s23 := by rw [es23]; exact IMk_o (by unfold suIMk; omega) q31_1
        have q27 : IMo s23 := by rw [es23]; exact IMo_o (by unfold suIMo; omega) q31_2
        have q28 : IR s23 := by rw [es23]; exact IR_o (by unfold suIR; omega) q31_3
        have q29 : s23 268 8 = s0 268 8 := (show s23 268 8 = s_31 268 8 from by rw [es23, xU_k _ _ _ (by omega)]).trans q31_4
        have q30 : s23 268 58 = s0 268 58 := (show s23 268 58 = s_31 268 58 from by rw [es23, xU_k _ _ _ (by omega)]).trans q31_5
        have q31 : s23 268 9 = s0 268 9 := (show s23 268 9 = s_31 268 9 from by rw [es23, xU_k _ _ _ (by omega)]).trans q31_6
        have q32 : s23 268 10 = s0 268 10 := (show s23 268 10 = s_31 268 10 from by rw [es23, xU_k _ _ _ (by omega)]).trans q31_7
        have q33 : s23 268 14 = s0 268 14 := (show s23 268 14 = s_31 268 14 from by rw [es23, xU_k _ _ _ (by omega)]).trans q31_8
        have q34 : s23 268 15 = s0 268 15 := (show s23 268 15 = s_31 268 15 from by rw [es23, xU_k _ _ _ (by omega)]).trans q31_9
        have q35 : s23 268 16 = s0 268 16 := (show s23 268 16 = s_31 268 16 from by rw [es23, xU_k _ _ _ (by omega)]).trans q31_10
        have q36 : s23 268 35 = s0 268 35 := (show s23 268 35 = s_31 268 35 from by rw [es23, xU_k _ _ _ (by omega)]).trans q31_11
        have q37 : s23 268 36 = s0 268 36 := (show s23 268 36 = s_31 268 36 from by rw [es23, xU_k _ _ _ (by omega)]).trans q31_12
        have q38 : s23 268 37 = s0 268 37 := (show s23 268 37 = s_31 268 37 from by rw [es23, xU_k _ _ _ (by omega)]).trans q31_13
        have q39 : s23 268 34 = s0 268 34 := (show s23 268 34 = s_31 268 34 from by rw [es23, xU_k _ _ _ (by omega)]).trans q31_14
        have hF40 := hF_31.put es23 (by omega)
        refine x_iinc (lv' := [(5, .int (xJ (i5_31 + 1))), (0, .ref (h0 + 268)), (1, .int (xJ a)), (2, .int (xJ b)), (4, .int (xJ x2))]) hx hb hl 4 rfl dX11_repeats_61 (by decide) rfl (fun ls hl => ?_)
        refine lv_goto (tgt := 31) hx hb dX11_repeats_64 (by decide) ?_
        exact ih31 (i5_31 + 1) s23 H locs ls (by omega) hF40 q25 q26 q27 q28 q29 q30 q31 q32 q33 q34 q35 q36 q37 q38 q39 (by omega) (by omega) hW (lv_sub hl [1, 2, 3, 4, 0] rfl)
    exact L31 ((x2 * b - x2 : Int).toNat + 1) x2 s0 H locs ls (by omega) hF p0 p1 p2 p3 k268_8 k268_58 k268_9 k268_10 k268_14 k268_15 k268_16 k268_35 k268_36 k268_37 k268_34 (by omega) (Nat.lt_succ_self _) hW (lv_sub hl [2, 3, 4, 1, 0] rfl)
  refine x_aload_n hx hb hl 1 rfl dX11_repeats_19 rfl ?_
  refine x_bipush hx hb dX11_repeats_20 (by decide) ?_
  refine x_iload_n hx hb hl 4 rfl dX11_repeats_22 rfl ?_
  refine x_goi (x_runV (As := [.int (xJ 6), .int (xJ q)]) hx hb hml hown hT hE hW hl.1 (Or.inl (by decide)) (so_268 h0 g _) rfl cf_X11_wrongAt wq1401 wq107 wq1399 (c_X11_wrongAt l D g T h0 s0 hW.2.1 6 (by decide) q rq p0 p1 p2 p3) ⟨rfl, rfl, ⟨by decide, by decide⟩, ⟨by decide, by decide⟩⟩ rfl rfl (Nat.le_of_ble_eq_true rfl) dX11_repeats_23) hW (fun x41 s42 H locs rx41 hp43 hW => ?_)
  obtain ⟨fs42, hp43⟩ := hp43
  have hF44 := hF.call fs42 (fun k h => by omega)
  have ghp43 := hp43.2
  rw [eQ]
  exact x_zret hx hb hr hlk hW (by omega) ⟨hF44, ⟨hp43.1.1, hp43.1.2.1, hp43.1.2.2.1, hp43.1.2.2.2.1, (hp43.1.2.2.2.2.1.trans k268_8), (hp43.1.2.2.2.2.2.1.trans k268_58), (hp43.1.2.2.2.2.2.2.1.trans k268_9), (hp43.1.2.2.2.2.2.2.2.1.trans k268_10), (hp43.1.2.2.2.2.2.2.2.2.1.trans k268_14), (hp43.1.2.2.2.2.2.2.2.2.2.1.trans k268_15), (hp43.1.2.2.2.2.2.2.2.2.2.2.1.trans k268_16), (hp43.1.2.2.2.2.2.2.2.2.2.2.2.2.1.trans k268_35), (hp43.1.2.2.2.2.2.2.2.2.2.2.2.2.2.1.trans k268_36), (hp43.1.2.2.2.2.2.2.2.2.2.2.2.2.2.2.1.trans k268_37), trivial⟩, by omega⟩ dX11_repeats_26
set_option maxHeartbeats 4000000 in
set_option maxRecDepth 100000 in
theorem c_X11_readsTimes (l : Launch) (D : va_G) (g : xG) (T : Nat × Nat × Nat) (h0 : Nat) (s0 : xS) (hσ : xRR s0) (p0 : IMn s0) (p1 : IMk s0) (p2 : IMo s0) (p3 : IR s0) : Met l yX11_readsTimes (xws yX11_readsTimes cX11_readsTimes 1 none) { frames := 1, cells := 0, slots := 0, locals := 22 } (xP [.ref (h0 + 268)] D g T h0 s0) (xQv D g h0 (fun τ => xFr (fun k => k = 268) s0 τ ∧ (((IMn τ) ∧ (IMk τ) ∧ (IMo τ) ∧ (IR τ) ∧ (τ 268 8 = s0 268 8) ∧ (τ 268 58 = s0 268 58) ∧ (τ 268 10 = s0 268 10) ∧ (τ 268 14 = s0 268 14) ∧ (τ 268 15 = s0 268 15) ∧ (τ 268 16 = s0 268 16) ∧ (τ 268 34 = s0 268 34) ∧ (τ 268 35 = s0 268 35) ∧ True) ∧ ((1 ≤ τ 268 37 ∧ τ 268 37 ≤ 9) ∧ s0 268 9 ≤ τ 268 9)))) 0 0 (xA h0) := by
  refine x_met hσ (by decide) (Nat.le_of_ble_eq_true rfl) ?_
  intro p e s m args below meth c hx hb hr hml hown hT hlk hnm hE hW ls hl
  have hl : lv_has ls 1 [(0, .ref (h0 + 268))] := hl
  obtain ⟨Q, eQ⟩ : ∃ Q, Q = MQ below (xQv D g h0 (fun τ => xFr (fun k => k = 268) s0 τ ∧ (((IMn τ) ∧ (IMk τ) ∧ (IMo τ) ∧ (IR τ) ∧ (τ 268 8 = s0 268 8) ∧ (τ 268 58 = s0 268 58) ∧ (τ 268 10 = s0 268 10) ∧ (τ 268 14 = s0 268 14) ∧ (τ 268 15 = s0 268 15) ∧ (τ 268 16 = s0 268 16) ∧ (τ 268 34 = s0 268 34) ∧ (τ 268 35 = s0 268 35) ∧ True) ∧ ((1 ≤ τ 268 37 ∧ τ 268 37 ≤ 9) ∧ s0 268 9 ≤ τ 268 9)))) args s 0 0 (xA h0) := ⟨_, rfl⟩
  rw [← eQ]
  generalize hHe : ([] : List Loc) = locs at hW ⊢
  obtain ⟨H, eH⟩ : ∃ H, H = s.heap := ⟨_, rfl⟩
  rw [← eH] at hW ⊢
  have hF : xFr (fun k => k = 268) s0 s0 := xFr.rf
  have k268_8 : s0 268 8 = s0 268 8 := rfl
  have k268_58 : s0 268 58 = s0 268 58 := rfl
  have k268_10 : s0 268 10 = s0 268 10 := rfl
  have k268_14 : s0 268 14 = s0 268 14 := rfl
  have k268_15 : s0 268 15 = s0 268 15 := rfl
  have k268_16 : s0 268 16 = s0 268 16 := rfl
  have k268_34 : s0 268 34 = s0 268 34 := rfl
  have k268_35 : s0 268 35 = s0 268 35 := rfl
  have k268_9 : s0 268 9 = s0 268 9 := rfl
  refine x_aload_n hx hb hl 0 rfl dX11_readsTimes_0 rfl ?_
  refine x_aload_n hx hb hl 0 rfl dX11_readsTimes_1 rfl ?_
  refine x_get (j := 9) (v := .int (xJ (s0 268 9))) hx hb hown hT hE hW cls_X11 (Or.inl (by decide)) (so_268 h0 g _) (by decide) rfl wq1194 dX11_readsTimes_2 ?_
  refine x_rd hW (fun x1 ex1 rx1 => ?_)
  have bx1 : 0 ≤ x1 ∧ x1 ≤ s0 268 10 ∧ s0 268 10 ≤ 240 := by rw [ex1]; exact p3
  have fx1 : x1 = s0 268 9 := ex1.trans k268_9
  refine x_put (j := 36) hx hb hown hT hE hW cls_X11 (by decide) (fun σ => so_268 h0 g σ) (by decide) (st_X11_36 h0 s0 268 x1) (ln_X11_36 h0 _ _) wq1221 rfl rfl rfl rx1 dX11_readsTimes_5 (fun H locs s2 es2 hW => ?_)
  have q3 : IMn s2 := by rw [es2]; exact IMn_268 p0 (by omega)
  have q4 : IMk s2 := by rw [es2]; exact IMk_268 p1 (by omega)
  have q5 : IMo s2 := by rw [es2]; exact IMo_o (by unfold suIMo; omega) p2
  have q6 : IR s2 := by rw [es2]; exact IR_268 p3 (by omega)
  have q7 : s2 268 8 = s0 268 8 := (show s2 268 8 = s0 268 8 from by rw [es2, xU_j _ _ (by decide)]).trans k268_8
  have q8 : s2 268 58 = s0 268 58 := (show s2 268 58 = s0 268 58 from by rw [es2, xU_j _ _ (by decide)]).trans k268_58
  have q9 : s2 268 10 = s0 268 10 := (show s2 268 10 = s0 268 10 from by rw [es2, xU_j _ _ (by decide)]).trans k268_10
  have q10 : s2 268 14 = s0 268 14 := (show s2 268 14 = s0 268 14 from by rw [es2, xU_j _ _ (by decide)]).trans k268_14
  have q11 : s2 268 15 = s0 268 15 := (show s2 268 15 = s0 268 15 from by rw [es2, xU_j _ _ (by decide)]).trans k268_15
  have q12 : s2 268 16 = s0 268 16 := (show s2 268 16 = s0 268 16 from by rw [es2, xU_j _ _ (by decide)]).trans k268_16
  have q13 : s2 268 34 = s0 268 34 := (show s2 268 34 = s0 268 34 from by rw [es2, xU_j _ _ (by decide)]).trans k268_34
  have q14 : s2 268 35 = s0 268 35 := (show s2 268 35 = s0 268 35 from by rw [es2, xU_j _ _ (by decide)]).trans k268_35
  have q15 : s2 268 9 = s0 268 9 := (show s2 268 9 = s0 268 9 from by rw [es2, xU_j _ _ (by decide)]).trans k268_9
  have hF16 := hF.put es2 (by omega)
  refine x_aload_n hx hb hl 0 rfl dX11_readsTimes_8 rfl ?_
  refine x_iconst hx hb dX11_readsTimes_9 ?_
  refine x_put (j := 37) hx hb hown hT hE hW cls_X11 (by decide) (fun σ => so_268 h0 g σ) (by decide) (st_X11_37 h0 s2 268 1) (ln_X11_37 h0 _ _) wq1222 rfl rfl rfl (by decide) dX11_readsTimes_10 (fun H locs s17 es17 hW => ?_)
  have q18 : IMn s17 := by rw [es17]; exact IMn_268 q3 (by omega)
  have q19 : IMk s17 := by rw [es17]; exact IMk_268 q4 (by omega)
  have q20 : IMo s17 := by rw [es17]; exact IMo_o (by unfold suIMo; omega) q5
  have q21 : IR s17 := by rw [es17]; exact IR_268 q6 (by omega)
  have q22 : s17 268 8 = s0 268 8 := (show s17 268 8 = s2 268 8 from by rw [es17, xU_j _ _ (by decide)]).trans q7
  have q23 : s17 268 58 = s0 268 58 := (show s17 268 58 = s2 268 58 from by rw [es17, xU_j _ _ (by decide)]).trans q8
  have q24 : s17 268 10 = s0 268 10 := (show s17 268 10 = s2 268 10 from by rw [es17, xU_j _ _ (by decide)]).trans q9
  have q25 : s17 268 14 = s0 268 14 := (show s17 268 14 = s2 268 14 from by rw [es17, xU_j _ _ (by decide)]).trans q10
  have q26 : s17 268 15 = s0 268 15 := (show s17 268 15 = s2 268 15 from by rw [es17, xU_j _ _ (by decide)]).trans q11
  have q27 : s17 268 16 = s0 268 16 := (show s17 268 16 = s2 268 16 from by rw [es17, xU_j _ _ (by decide)]).trans q12
  have q28 : s17 268 34 = s0 268 34 := (show s17 268 34 = s2 268 34 from by rw [es17, xU_j _ _ (by decide)]).trans q13
  have q29 : s17 268 35 = s0 268 35 := (show s17 268 35 = s2 268 35 from by rw [es17, xU_j _ _ (by decide)]).trans q14
  have q30 : s17 268 9 = s0 268 9 := (show s17 268 9 = s2 268 9 from by rw [es17, xU_j _ _ (by decide)]).trans q15
  have q31 : s17 268 37 = 1 := by rw [es17, xU_s]
  have hF32 := hF16.put es17 (by omega)
  refine x_aload_n hx hb hl 0 rfl dX11_readsTimes_13 rfl ?_
  refine x_goi (x_runV (As := []) hx hb hml hown hT hE hW hl.1 (Or.inl (by decide)) (so_268 h0 g _) rfl cf_X11_here wq1391 wq106 wq1389 (c_X11_here l D g T h0 s17 hW.2.1 q18 q19 q20 q21) ⟨rfl, rfl, ⟨by decide, by decide⟩, ⟨by decide, by decide⟩⟩ rfl rfl (Nat.le_of_ble_eq_true rfl) dX11_readsTimes_14) hW (fun x33 s34 H locs rx33 hp35 hW => ?_)
  obtain ⟨es34, hp35⟩ := hp35
  subst es34
  have ghp35 := hp35
  refine x_bipush hx hb dX11_readsTimes_17 (by decide) ?_
  refine x_bipush hx hb dX11_readsTimes_19 (by decide) ?_
  refine x_goi (x_runS (As := [.int (xJ x33), .int (xJ 50), .int (xJ 57)]) hx hb hml hown hT hE hW hl.1 cf_X11_in wq1383 wq1382 (c_X11_in l D g T h0 s17 hW.2.1 x33 rx33 50 (by decide) 57 (by decide)) ⟨rfl, rfl, ⟨by decide, by decide⟩, ⟨by decide, by decide⟩⟩ rfl rfl (Nat.le_of_ble_eq_true rfl) dX11_readsTimes_21) hW (fun x36 s37 H locs rx36 hp38 hW => ?_)
  obtain ⟨es37, hp38⟩ := hp38
  subst es37
  have ghp38 := hp38
  refine x_if_ne (tgt := 28) hx hb rx36 dX11_readsTimes_24 (by decide) (fun c39 => ?_) (fun c39 => ?_)
  · skip
    refine x_aload_n hx hb hl 0 rfl dX11_readsTimes_28 rfl ?_
    refine x_aload_n hx hb hl 0 rfl dX11_readsTimes_29 rfl ?_
    refine x_goi (x_runV (As := []) hx hb hml hown hT hE hW hl.1 (Or.inl (by decide)) (so_268 h0 g _) rfl cf_X11_here wq1391 wq106 wq1389 (c_X11_here l D g T h0 s17 hW.2.1 q18 q19 q20 q21) ⟨rfl, rfl, ⟨by decide, by decide⟩, ⟨by decide, by decide⟩⟩ rfl rfl (Nat.le_of_ble_eq_true rfl) dX11_readsTimes_30) hW (fun x40 s41 H locs rx40 hp42 hW => ?_)
    obtain ⟨es41, hp42⟩ := hp42
    subst es41
    have ghp42 := hp42
    refine x_bipush hx hb dX11_readsTimes_33 (by decide) ?_
    refine x_isub hx hb dX11_readsTimes_35 ?_
    refine x_put (j := 37) hx hb hown hT hE hW cls_X11 (by decide) (fun σ => so_268 h0 g σ) (by decide) (st_X11_37 h0 s17 268 (x40 - 48)) (ln_X11_37 h0 _ _) wq1222 rfl rfl rfl (by omega) dX11_readsTimes_36 (fun H locs s43 es43 hW => ?_)
    have q44 : IMn s43 := by rw [es43]; exact IMn_268 q18 (by omega)
    have q45 : IMk s43 := by rw [es43]; exact IMk_268 q19 (by omega)
    have q46 : IMo s43 := by rw [es43]; exact IMo_o (by unfold suIMo; omega) q20
    have q47 : IR s43 := by rw [es43]; exact IR_268 q21 (by omega)
    have q48 : s43 268 8 = s0 268 8 := (show s43 268 8 = s17 268 8 from by rw [es43, xU_j _ _ (by decide)]).trans q22
    have q49 : s43 268 58 = s0 268 58 := (show s43 268 58 = s17 268 58 from by rw [es43, xU_j _ _ (by decide)]).trans q23
    have q50 : s43 268 10 = s0 268 10 := (show s43 268 10 = s17 268 10 from by rw [es43, xU_j _ _ (by decide)]).trans q24
    have q51 : s43 268 14 = s0 268 14 := (show s43 268 14 = s17 268 14 from by rw [es43, xU_j _ _ (by decide)]).trans q25
    have q52 : s43 268 15 = s0 268 15 := (show s43 268 15 = s17 268 15 from by rw [es43, xU_j _ _ (by decide)]).trans q26
    have q53 : s43 268 16 = s0 268 16 := (show s43 268 16 = s17 268 16 from by rw [es43, xU_j _ _ (by decide)]).trans q27
    have q54 : s43 268 34 = s0 268 34 := (show s43 268 34 = s17 268 34 from by rw [es43, xU_j _ _ (by decide)]).trans q28
    have q55 : s43 268 35 = s0 268 35 := (show s43 268 35 = s17 268 35 from by rw [es43, xU_j _ _ (by decide)]).trans q29
    have q56 : s43 268 9 = s0 268 9 := (show s43 268 9 = s17 268 9 from by rw [es43, xU_j _ _ (by decide)]).trans q30
    have q57 : s43 268 37 = (x40 - 48) := by rw [es43, xU_s]
    have hF58 := hF32.put es43 (by omega)
    refine x_aload_n hx hb hl 0 rfl dX11_readsTimes_39 rfl ?_
    refine x_aload_n hx hb hl 0 rfl dX11_readsTimes_40 rfl ?_
    refine x_get (j := 9) (v := .int (xJ (s43 268 9))) hx hb hown hT hE hW cls_X11 (Or.inl (by decide)) (so_268 h0 g _) (by decide) rfl wq1194 dX11_readsTimes_41 ?_
    refine x_rd hW (fun x59 ex59 rx59 => ?_)
    have bx59 : 0 ≤ x59 ∧ x59 ≤ s43 268 10 ∧ s43 268 10 ≤ 240 := by rw [ex59]; exact q47
    have fx59 : x59 = s0 268 9 := ex59.trans q56
    refine x_iconst hx hb dX11_readsTimes_44 ?_
    refine x_iadd hx hb dX11_readsTimes_45 ?_
    refine x_put (j := 9) hx hb hown hT hE hW cls_X11 (by decide) (fun σ => so_268 h0 g σ) (by decide) (st_X11_9 h0 s43 268 (x59 + 1)) (ln_X11_9 h0 _ _) wq1194 rfl rfl rfl (by omega) dX11_readsTimes_46 (fun H locs s60 es60 hW => ?_)
    have q61 : IMn s60 := by rw [es60]; exact IMn_268 q44 (by omega)
    have q62 : IMk s60 := by rw [es60]; exact IMk_268 q45 (by omega)
    have q63 : IMo s60 := by rw [es60]; exact IMo_o (by unfold suIMo; omega) q46
    have q64 : IR s60 := by rw [es60]; exact IR_268 q47 (by omega)
    have q65 : s60 268 8 = s0 268 8 := (show s60 268 8 = s43 268 8 from by rw [es60, xU_j _ _ (by decide)]).trans q48
    have q66 : s60 268 58 = s0 268 58 := (show s60 268 58 = s43 268 58 from by rw [es60, xU_j _ _ (by decide)]).trans q49
    have q67 : s60 268 10 = s0 268 10 := (show s60 268 10 = s43 268 10 from by rw [es60, xU_j _ _ (by decide)]).trans q50
    have q68 : s60 268 14 = s0 268 14 := (show s60 268 14 = s43 268 14 from by rw [es60, xU_j _ _ (by decide)]).trans q51
    have q69 : s60 268 15 = s0 268 15 := (show s60 268 15 = s43 268 15 from by rw [es60, xU_j _ _ (by decide)]).trans q52
    have q70 : s60 268 16 = s0 268 16 := (show s60 268 16 = s43 268 16 from by rw [es60, xU_j _ _ (by decide)]).trans q53
    have q71 : s60 268 34 = s0 268 34 := (show s60 268 34 = s43 268 34 from by rw [es60, xU_j _ _ (by decide)]).trans q54
    have q72 : s60 268 35 = s0 268 35 := (show s60 268 35 = s43 268 35 from by rw [es60, xU_j _ _ (by decide)]).trans q55
    have q73 : s60 268 9 = (x59 + 1) := by rw [es60, xU_s]
    have q74 : s60 268 37 = (x40 - 48) := (show s60 268 37 = s43 268 37 from by rw [es60, xU_j _ _ (by decide)]).trans q57
    have hF75 := hF58.put es60 (by omega)
    rw [eQ]
    exact x_vret hx hb hr hlk hW ⟨hF75, ⟨q61, q62, q63, q64, q65, q66, q67, q68, q69, q70, q71, q72, trivial⟩, by omega⟩ dX11_readsTimes_49
  rw [eQ]
  exact x_vret hx hb hr hlk hW ⟨hF32, ⟨q18, q19, q20, q21, q22, q23, q24, q25, q26, q27, q28, q29, trivial⟩, by omega⟩ dX11_readsTimes_27
set_option maxHeartbeats 4000000 in
set_option maxRecDepth 100000 in
theorem c_X11_readsStep (l : Launch) (D : va_G) (g : xG) (T : Nat × Nat × Nat) (h0 : Nat) (s0 : xS) (hσ : xRR s0) (hrw : zRW s0) (p0 : IMn s0) (p1 : IMk s0) (p2 : IMo s0) (p3 : IR s0) : Met l yX11_readsStep (xws yX11_readsStep cX11_readsStep 4 (some .boolean)) { frames := 2, cells := 0, slots := 0, locals := 47 } (xP [.ref (h0 + 268)] D g T h0 s0) (xQi D g h0 (fun r τ => xFr (fun k => k = 268 ∨ k = 289 ∨ k = 290 ∨ k = 291 ∨ k = 292) s0 τ ∧ (((IMn τ) ∧ (IMk τ) ∧ (IMo τ) ∧ (IR τ) ∧ (τ 268 8 = s0 268 8) ∧ (τ 268 58 = s0 268 58) ∧ (τ 268 10 = s0 268 10) ∧ (τ 268 14 = s0 268 14) ∧ (τ 268 15 = s0 268 15) ∧ (τ 268 16 = s0 268 16) ∧ True) ∧ ((r = 0 ∧ s0 268 9 ≤ τ 268 9) ∨ (r = 1 ∧ zRW τ ∧ s0 268 9 + 1 ≤ τ 268 9))))) 0 0 (xA h0) := by
  refine x_met hσ (by decide) (Nat.le_of_ble_eq_true rfl) ?_
  intro p e s m args below meth c hx hb hr hml hown hT hlk hnm hE hW ls hl
  have hl : lv_has ls 4 [(0, .ref (h0 + 268))] := hl
  obtain ⟨Q, eQ⟩ : ∃ Q, Q = MQ below (xQi D g h0 (fun r τ => xFr (fun k => k = 268 ∨ k = 289 ∨ k = 290 ∨ k = 291 ∨ k = 292) s0 τ ∧ (((IMn τ) ∧ (IMk τ) ∧ (IMo τ) ∧ (IR τ) ∧ (τ 268 8 = s0 268 8) ∧ (τ 268 58 = s0 268 58) ∧ (τ 268 10 = s0 268 10) ∧ (τ 268 14 = s0 268 14) ∧ (τ 268 15 = s0 268 15) ∧ (τ 268 16 = s0 268 16) ∧ True) ∧ ((r = 0 ∧ s0 268 9 ≤ τ 268 9) ∨ (r = 1 ∧ zRW τ ∧ s0 268 9 + 1 ≤ τ 268 9))))) args s 0 0 (xA h0) := ⟨_, rfl⟩
  rw [← eQ]
  generalize hHe : ([] : List Loc) = locs at hW ⊢
  obtain ⟨H, eH⟩ : ∃ H, H = s.heap := ⟨_, rfl⟩
  rw [← eH] at hW ⊢
  have hF : xFr (fun k => k = 268 ∨ k = 289 ∨ k = 290 ∨ k = 291 ∨ k = 292) s0 s0 := xFr.rf
  have k268_8 : s0 268 8 = s0 268 8 := rfl
  have k268_58 : s0 268 58 = s0 268 58 := rfl
  have k268_10 : s0 268 10 = s0 268 10 := rfl
  have k268_14 : s0 268 14 = s0 268 14 := rfl
  have k268_15 : s0 268 15 = s0 268 15 := rfl
  have k268_16 : s0 268 16 = s0 268 16 := rfl
  have k268_9 : s0 268 9 = s0 268 9 := rfl
  have k268_34 : s0 268 34 = s0 268 34 := rfl
  have k268_35 : s0 268 35 = s0 268 35 := rfl
  refine x_aload_n hx hb hl 0 rfl dX11_readsStep_0 rfl ?_
  refine x_gov (x_runV (As := []) hx hb hml hown hT hE hW hl.1 (Or.inl (by decide)) (so_268 h0 g _) rfl cf_X11_readsTimes wq1450 wq113 wq1448 (c_X11_readsTimes l D g T h0 s0 hW.2.1 p0 p1 p2 p3) ⟨rfl, rfl, ⟨by decide, by decide⟩, ⟨by decide, by decide⟩⟩ rfl rfl (Nat.le_of_ble_eq_true rfl) dX11_readsStep_1) hW (fun s2 H locs hp3 hW => ?_)
  obtain ⟨fs2, hp3⟩ := hp3
  have hF4 := hF.call fs2 (fun k h => by omega)
  have ghp3 := hp3.2
  have A1 := And.intro True.intro (hrw.f (τ := s2) (by have := hrw.2.1; omega) (by have := hrw.1; omega) (fs2 291 (by omega)) (fs2 292 (by omega)))
  have L4 : ∀ (fu : Nat) (s_4 : xS) (H : Heap) (locs : List Loc) (ls : Array Slot), (xFr (fun k => k = 268 ∨ k = 289 ∨ k = 290 ∨ k = 291 ∨ k = 292) s0 s_4) → (IMn s_4) → (IMk s_4) → (IMo s_4) → (IR s_4) → (s_4 268 8 = s0 268 8) → (s_4 268 58 = s0 268 58) → (s_4 268 10 = s0 268 10) → (s_4 268 14 = s0 268 14) → (s_4 268 15 = s0 268 15) → (s_4 268 16 = s0 268 16) → (s_4 268 34 = s0 268 34) → (zRW s_4) → (1 ≤ s_4 268 37 ∧ s_4 268 37 ≤ 9) → (s0 268 9 ≤ s_4 268 9) → (241 - s_4 268 9).toNat < fu → xW D g h0 s H locs s_4 → lv_has ls 4 [(0, .ref (h0 + 268))] → W p l e { frames := 2, cells := 0, slots := 0, locals := 47 } s m args below meth c H locs 0 0 Q (F0 m 4 ls []) := by
    intro fu
    induction fu with
    | zero => intro s_4 H locs ls hF_4 q4_0 q4_1 q4_2 q4_3 q4_4 q4_5 q4_6 q4_7 q4_8 q4_9 q4_10 v4_0 v4_1 v4_2 hm; exact absurd hm (Nat.not_lt_zero _)
    | succ fu ih4 =>
      intro s_4 H locs ls hF_4 q4_0 q4_1 q4_2 q4_3 q4_4 q4_5 q4_6 q4_7 q4_8 q4_9 q4_10 v4_0 v4_1 v4_2 hm hW hl
      have Y4 := q4_3
      unfold IR at Y4
      have w4 := v4_0.2.1
      have u4 := v4_0.1
      refine x_aload_n hx hb hl 0 rfl dX11_readsStep_4 rfl ?_
      refine x_goi (x_runV (As := []) hx hb hml hown hT hE hW hl.1 (Or.inl (by decide)) (so_268 h0 g _) rfl cf_X11_here wq1391 wq106 wq1389 (c_X11_here l D g T h0 s_4 hW.2.1 q4_0 q4_1 q4_2 q4_3) ⟨rfl, rfl, ⟨by decide, by decide⟩, ⟨by decide, by decide⟩⟩ rfl rfl (Nat.le_of_ble_eq_true rfl) dX11_readsStep_5) hW (fun x5 s6 H locs rx5 hp7 hW => ?_)
      obtain ⟨es6, hp7⟩ := hp7
      subst es6
      have ghp7 := hp7
      have q8 : s_4 268 9 = s_4 268 9 := rfl
      have q9 : s_4 268 37 = s_4 268 37 := rfl
      have q10 : s_4 268 35 = s_4 268 35 := rfl
      refine x_bipush hx hb dX11_readsStep_8 (by decide) ?_
      refine x_icmp_ne (tgt := 97) hx hb rx5 (by decide) dX11_readsStep_10 (by decide) (fun c11 => ?_) (fun c11 => ?_)
      · skip
        refine x_aload_n hx hb hl 0 rfl dX11_readsStep_97 rfl ?_
        refine x_get (j := 36) (v := .int (xJ (s_4 268 36))) hx hb hown hT hE hW cls_X11 (Or.inl (by decide)) (so_268 h0 g _) (by decide) rfl wq1221 dX11_readsStep_98 ?_
        refine x_rd hW (fun x12 ex12 rx12 => ?_)
        have q13 : s_4 291 = s_4 291 := rfl
        have q14 : s_4 292 = s_4 292 := rfl
        refine lv_istore_n (lv' := [(1, .int (xJ x12)), (0, .ref (h0 + 268))]) hx hb dX11_readsStep_101 rfl hl (by decide) rfl (fun ls hl => ?_)
        refine x_aload_n hx hb hl 1 rfl dX11_readsStep_102 rfl ?_
        refine x_get (j := 37) (v := .int (xJ (s_4 268 37))) hx hb hown hT hE hW cls_X11 (Or.inl (by decide)) (so_268 h0 g _) (by decide) rfl wq1222 dX11_readsStep_103 ?_
        refine x_rd hW (fun x15 ex15 rx15 => ?_)
        have fx15 : x15 = s_4 268 37 := ex15.trans q9
        refine lv_istore_n (lv' := [(2, .int (xJ x15)), (1, .int (xJ x12)), (0, .ref (h0 + 268))]) hx hb dX11_readsStep_106 rfl hl (by decide) rfl (fun ls hl => ?_)
        refine x_aload_n hx hb hl 2 rfl dX11_readsStep_107 rfl ?_
        refine x_goi (x_runV (As := []) hx hb hml hown hT hE hW hl.1 (Or.inl (by decide)) (so_268 h0 g _) rfl cf_X11_here wq1391 wq106 wq1389 (c_X11_here l D g T h0 s_4 hW.2.1 q4_0 q4_1 q4_2 q4_3) ⟨rfl, rfl, ⟨by decide, by decide⟩, ⟨by decide, by decide⟩⟩ rfl rfl (Nat.le_of_ble_eq_true rfl) dX11_readsStep_108) hW (fun x16 s17 H locs rx16 hp18 hW => ?_)
        obtain ⟨es17, hp18⟩ := hp18
        subst es17
        have ghp18 := hp18
        refine x_goi (x_runS (As := [.int (xJ x16)]) hx hb hml hown hT hE hW hl.1 cf_X11_wayOf wq1453 wq1452 (c_X11_wayOf l D g T h0 s_4 hW.2.1 x16 rx16) ⟨rfl, rfl, ⟨by decide, by decide⟩, ⟨by decide, by decide⟩⟩ rfl rfl (Nat.le_of_ble_eq_true rfl) dX11_readsStep_111) hW (fun x19 s20 H locs rx19 hp21 hW => ?_)
        obtain ⟨es20, hp21⟩ := hp21
        subst es20
        have ghp21 := hp21
        refine lv_istore_n (lv' := [(3, .int (xJ x19)), (2, .int (xJ x15)), (1, .int (xJ x12)), (0, .ref (h0 + 268))]) hx hb dX11_readsStep_114 rfl hl (by decide) rfl (fun ls hl => ?_)
        refine x_iload_n hx hb hl 0 rfl dX11_readsStep_115 rfl ?_
        refine x_iconst hx hb dX11_readsStep_116 ?_
        refine x_icmp_ne (tgt := 130) hx hb rx19 (by decide) dX11_readsStep_117 (by decide) (fun c22 => ?_) (fun c22 => ?_)
        · skip
          refine x_aload_n hx hb hl 3 rfl dX11_readsStep_130 rfl ?_
          refine x_aload_n hx hb hl 3 rfl dX11_readsStep_131 rfl ?_
          refine x_get (j := 9) (v := .int (xJ (s_4 268 9))) hx hb hown hT hE hW cls_X11 (Or.inl (by decide)) (so_268 h0 g _) (by decide) rfl wq1194 dX11_readsStep_132 ?_
          refine x_rd hW (fun x23 ex23 rx23 => ?_)
          have bx23 : 0 ≤ x23 ∧ x23 ≤ s_4 268 10 ∧ s_4 268 10 ≤ 240 := by rw [ex23]; exact q4_3
          have fx23 : x23 = s_4 268 9 := ex23.trans q8
          refine x_iconst hx hb dX11_readsStep_135 ?_
          refine x_iadd hx hb dX11_readsStep_136 ?_
          refine x_put (j := 9) hx hb hown hT hE hW cls_X11 (by decide) (fun σ => so_268 h0 g σ) (by decide) (st_X11_9 h0 s_4 268 (x23 + 1)) (ln_X11_9 h0 _ _) wq1194 rfl rfl rfl (by omega) dX11_readsStep_137 (fun H locs s24 es24 hW => ?_)
          have q25 : IMn s24 := by rw [es24]; exact IMn_268 q4_0 (by omega)
          have q26 : IMk s24 := by rw [es24]; exact IMk_268 q4_1 (by omega)
          have q27 : IMo s24 := by rw [es24]; exact IMo_o (by unfold suIMo; omega) q4_2
          have q28 : IR s24 := by rw [es24]; exact IR_268 q4_3 (by omega)
          have q29 : s24 268 8 = s0 268 8 := (show s24 268 8 = s_4 268 8 from by rw [es24, xU_j _ _ (by decide)]).trans q4_4
          have q30 : s24 268 58 = s0 268 58 := (show s24 268 58 = s_4 268 58 from by rw [es24, xU_j _ _ (by decide)]).trans q4_5
          have q31 : s24 268 10 = s0 268 10 := (show s24 268 10 = s_4 268 10 from by rw [es24, xU_j _ _ (by decide)]).trans q4_6
          have q32 : s24 268 14 = s0 268 14 := (show s24 268 14 = s_4 268 14 from by rw [es24, xU_j _ _ (by decide)]).trans q4_7
          have q33 : s24 268 15 = s0 268 15 := (show s24 268 15 = s_4 268 15 from by rw [es24, xU_j _ _ (by decide)]).trans q4_8
          have q34 : s24 268 16 = s0 268 16 := (show s24 268 16 = s_4 268 16 from by rw [es24, xU_j _ _ (by decide)]).trans q4_9
          have q35 : s24 268 34 = s0 268 34 := (show s24 268 34 = s_4 268 34 from by rw [es24, xU_j _ _ (by decide)]).trans q4_10
          have q36 : s24 268 9 = (x23 + 1) := by rw [es24, xU_s]
          have q37 : s24 268 37 = s_4 268 37 := (show s24 268 37 = s_4 268 37 from by rw [es24, xU_j _ _ (by decide)]).trans q9
          have q38 : s24 268 35 = s_4 268 35 := (show s24 268 35 = s_4 268 35 from by rw [es24, xU_j _ _ (by decide)]).trans q10
          have q39 : s24 291 = s_4 291 := (show s24 291 = s_4 291 from by rw [es24, xU_k _ _ _ (by omega)]).trans q13
          have q40 : s24 292 = s_4 292 := (show s24 292 = s_4 292 from by rw [es24, xU_k _ _ _ (by omega)]).trans q14
          have hF41 := hF_4.put es24 (by omega)
          refine x_aload_n hx hb hl 3 rfl dX11_readsStep_140 rfl ?_
          refine x_get (j := 34) (v := .int (xJ (s24 268 34))) hx hb hown hT hE hW cls_X11 (Or.inl (by decide)) (so_268 h0 g _) (by decide) rfl wq1219 dX11_readsStep_141 ?_
          refine x_rd hW (fun x42 ex42 rx42 => ?_)
          have fx42 : x42 = s0 268 34 := ex42.trans q35
          refine x_iload_n hx hb hl 1 rfl dX11_readsStep_144 rfl ?_
          refine x_iadd hx hb dX11_readsStep_145 ?_
          refine x_bipush hx hb dX11_readsStep_146 (by decide) ?_
          refine x_icmp_le (tgt := 159) hx hb (by omega) (by decide) dX11_readsStep_148 (by decide) (fun c43 => ?_) (fun c43 => ?_)
          · skip
            refine x_aload_n hx hb hl 3 rfl dX11_readsStep_159 rfl ?_
            refine x_get (j := 30) (v := .ref (h0 + 289)) hx hb hown hT hE hW cls_X11 (Or.inl (by decide)) (so_268 h0 g _) (by decide) rfl wq1215 dX11_readsStep_160 ?_
            refine x_aload_n hx hb hl 3 rfl dX11_readsStep_163 rfl ?_
            refine x_get (j := 34) (v := .int (xJ (s24 268 34))) hx hb hown hT hE hW cls_X11 (Or.inl (by decide)) (so_268 h0 g _) (by decide) rfl wq1219 dX11_readsStep_164 ?_
            refine x_rd hW (fun x44 ex44 rx44 => ?_)
            have fx44 : x44 = s0 268 34 := ex44.trans q35
            refine x_iload_n hx hb hl 0 rfl dX11_readsStep_167 rfl ?_
            refine lv_i2b hx hb dX11_readsStep_168 rfl ?_
            refine x_any (fun x45 rx45 => ?_)
            obtain ⟨y47, ey47, ry47⟩ := xnb x45
            refine x_bast (w := y47) hx hb hE hW (by decide) (fun σ => sa_289 h0 g σ) (by omega) (by decide) ey47 ry47 dX11_readsStep_169 (fun H locs s46 es46 hW => ?_)
            have q48 : IMn s46 := by rw [es46]; exact IMn_o (by unfold suIMn; omega) q25
            have q49 : IMk s46 := by rw [es46]; exact IMk_o (by unfold suIMk; omega) q26
            have q50 : IMo s46 := by rw [es46]; exact IMo_o (by unfold suIMo; omega) q27
            have q51 : IR s46 := by rw [es46]; exact IR_o (by unfold suIR; omega) q28
            have q52 : s46 268 8 = s0 268 8 := (show s46 268 8 = s24 268 8 from by rw [es46, xU_k _ _ _ (by omega)]).trans q29
            have q53 : s46 268 58 = s0 268 58 := (show s46 268 58 = s24 268 58 from by rw [es46, xU_k _ _ _ (by omega)]).trans q30
            have q54 : s46 268 10 = s0 268 10 := (show s46 268 10 = s24 268 10 from by rw [es46, xU_k _ _ _ (by omega)]).trans q31
            have q55 : s46 268 14 = s0 268 14 := (show s46 268 14 = s24 268 14 from by rw [es46, xU_k _ _ _ (by omega)]).trans q32
            have q56 : s46 268 15 = s0 268 15 := (show s46 268 15 = s24 268 15 from by rw [es46, xU_k _ _ _ (by omega)]).trans q33
            have q57 : s46 268 16 = s0 268 16 := (show s46 268 16 = s24 268 16 from by rw [es46, xU_k _ _ _ (by omega)]).trans q34
            have q58 : s46 268 34 = s0 268 34 := (show s46 268 34 = s24 268 34 from by rw [es46, xU_k _ _ _ (by omega)]).trans q35
            have q59 : s46 268 9 = (x23 + 1) := (show s46 268 9 = s24 268 9 from by rw [es46, xU_k _ _ _ (by omega)]).trans q36
            have q60 : s46 268 37 = s_4 268 37 := (show s46 268 37 = s24 268 37 from by rw [es46, xU_k _ _ _ (by omega)]).trans q37
            have q61 : s46 268 35 = s_4 268 35 := (show s46 268 35 = s24 268 35 from by rw [es46, xU_k _ _ _ (by omega)]).trans q38
            have q62 : s46 291 = s_4 291 := (show s46 291 = s24 291 from by rw [es46, xU_k _ _ _ (by omega)]).trans q39
            have q63 : s46 292 = s_4 292 := (show s46 292 = s24 292 from by rw [es46, xU_k _ _ _ (by omega)]).trans q40
            have hF64 := hF41.put es46 (by omega)
            refine x_aload_n hx hb hl 3 rfl dX11_readsStep_170 rfl ?_
            refine x_aload_n hx hb hl 3 rfl dX11_readsStep_171 rfl ?_
            refine x_get (j := 34) (v := .int (xJ (s46 268 34))) hx hb hown hT hE hW cls_X11 (Or.inl (by decide)) (so_268 h0 g _) (by decide) rfl wq1219 dX11_readsStep_172 ?_
            refine x_rd hW (fun x65 ex65 rx65 => ?_)
            have fx65 : x65 = s0 268 34 := ex65.trans q58
            refine x_iconst hx hb dX11_readsStep_175 ?_
            refine x_iadd hx hb dX11_readsStep_176 ?_
            refine x_put (j := 34) hx hb hown hT hE hW cls_X11 (by decide) (fun σ => so_268 h0 g σ) (by decide) (st_X11_34 h0 s46 268 (x65 + 1)) (ln_X11_34 h0 _ _) wq1219 rfl rfl rfl (by omega) dX11_readsStep_177 (fun H locs s66 es66 hW => ?_)
            have q67 : IMn s66 := by rw [es66]; exact IMn_268 q48 (by omega)
            have q68 : IMk s66 := by rw [es66]; exact IMk_268 q49 (by omega)
            have q69 : IMo s66 := by rw [es66]; exact IMo_o (by unfold suIMo; omega) q50
            have q70 : IR s66 := by rw [es66]; exact IR_268 q51 (by omega)
            have q71 : s66 268 8 = s0 268 8 := (show s66 268 8 = s46 268 8 from by rw [es66, xU_j _ _ (by decide)]).trans q52
            have q72 : s66 268 58 = s0 268 58 := (show s66 268 58 = s46 268 58 from by rw [es66, xU_j _ _ (by decide)]).trans q53
            have q73 : s66 268 10 = s0 268 10 := (show s66 268 10 = s46 268 10 from by rw [es66, xU_j _ _ (by decide)]).trans q54
            have q74 : s66 268 14 = s0 268 14 := (show s66 268 14 = s46 268 14 from by rw [es66, xU_j _ _ (by decide)]).trans q55
            have q75 : s66 268 15 = s0 268 15 := (show s66 268 15 = s46 268 15 from by rw [es66, xU_j _ _ (by decide)]).trans q56
            have q76 : s66 268 16 = s0 268 16 := (show s66 268 16 = s46 268 16 from by rw [es66, xU_j _ _ (by decide)]).trans q57
            have q77 : s66 268 34 = (x65 + 1) := by rw [es66, xU_s]
            have q78 : s66 268 9 = (x23 + 1) := (show s66 268 9 = s46 268 9 from by rw [es66, xU_j _ _ (by decide)]).trans q59
            have q79 : s66 268 37 = s_4 268 37 := (show s66 268 37 = s46 268 37 from by rw [es66, xU_j _ _ (by decide)]).trans q60
            have q80 : s66 268 35 = s_4 268 35 := (show s66 268 35 = s46 268 35 from by rw [es66, xU_j _ _ (by decide)]).trans q61
            have q81 : s66 291 = s_4 291 := (show s66 291 = s46 291 from by rw [es66, xU_k _ _ _ (by omega)]).trans q62
            have q82 : s66 292 = s_4 292 := (show s66 292 = s46 292 from by rw [es66, xU_k _ _ _ (by omega)]).trans q63
            have hF83 := hF64.put es66 (by omega)
            refine x_aload_n hx hb hl 3 rfl dX11_readsStep_180 rfl ?_
            refine x_aload_n hx hb hl 3 rfl dX11_readsStep_181 rfl ?_
            refine x_get (j := 34) (v := .int (xJ (s66 268 34))) hx hb hown hT hE hW cls_X11 (Or.inl (by decide)) (so_268 h0 g _) (by decide) rfl wq1219 dX11_readsStep_182 ?_
            refine x_rd hW (fun x84 ex84 rx84 => ?_)
            have fx84 : x84 = (x65 + 1) := ex84.trans q77
            refine x_iconst hx hb dX11_readsStep_185 ?_
            refine x_isub hx hb dX11_readsStep_186 ?_
            refine x_iload_n hx hb hl 1 rfl dX11_readsStep_187 rfl ?_
            refine x_iload_n hx hb hl 2 rfl dX11_readsStep_188 rfl ?_
            refine x_goi (x_runV (As := [.int (xJ (x84 - 1)), .int (xJ x15), .int (xJ x12)]) hx hb hml hown hT hE hW hl.1 (Or.inl (by decide)) (so_268 h0 g _) rfl cf_X11_repeats wq1457 wq114 wq1455 (c_X11_repeats l D g T h0 s66 hW.2.1 (x84 - 1) (by omega) x15 rx15 x12 rx12 (by omega) (by omega) q67 q68 q69 q70) ⟨rfl, rfl, ⟨by decide, by decide⟩, ⟨by decide, by decide⟩⟩ rfl rfl (Nat.le_of_ble_eq_true rfl) dX11_readsStep_189) hW (fun x85 s86 H locs rx85 hp87 hW => ?_)
            obtain ⟨fs86, hp87⟩ := hp87
            have hF88 := hF83.call fs86 (fun k h => by omega)
            have q89 : s86 291 = s_4 291 := (fs86 _ (by omega)).trans q81
            have q90 : s86 292 = s_4 292 := (fs86 _ (by omega)).trans q82
            have ghp87 := hp87.2
            refine x_if_ne (tgt := 197) hx hb rx85 dX11_readsStep_192 (by decide) (fun c91 => ?_) (fun c91 => ?_)
            · skip
              have L197 : ∀ (fu : Nat) (s_197 : xS) (H : Heap) (locs : List Loc) (ls : Array Slot), (xFr (fun k => k = 268 ∨ k = 289 ∨ k = 290 ∨ k = 291 ∨ k = 292) s0 s_197) → (IMn s_197) → (IMk s_197) → (IMo s_197) → (IR s_197) → (s_197 268 8 = s0 268 8) → (s_197 268 58 = s0 268 58) → (s_197 268 10 = s0 268 10) → (s_197 268 14 = s0 268 14) → (s_197 268 15 = s0 268 15) → (s_197 268 16 = s0 268 16) → (s_197 268 36 = s66 268 36) → (s_197 268 37 = s_4 268 37) → (zRW s_197) → (s0 268 9 + 1 ≤ s_197 268 9) → (241 - s_197 268 9).toNat < fu → xW D g h0 s H locs s_197 → lv_has ls 4 [(0, .ref (h0 + 268))] → W p l e { frames := 2, cells := 0, slots := 0, locals := 47 } s m args below meth c H locs 0 0 Q (F0 m 197 ls []) := by
                intro fu
                induction fu with
                | zero => intro s_197 H locs ls hF_197 q197_2 q197_3 q197_4 q197_5 q197_6 q197_7 q197_9 q197_10 q197_11 q197_12 q197_14 q197_15 v197_0 v197_1 hm; exact absurd hm (Nat.not_lt_zero _)
                | succ fu ih197 =>
                  intro s_197 H locs ls hF_197 q197_2 q197_3 q197_4 q197_5 q197_6 q197_7 q197_9 q197_10 q197_11 q197_12 q197_14 q197_15 v197_0 v197_1 hm hW hl
                  have Y197 := q197_5
                  unfold IR at Y197
                  have w197 := v197_0.2.1
                  have u197 := v197_0.1
                  refine x_aload_n hx hb hl 0 rfl dX11_readsStep_197 rfl ?_
                  refine x_goi (x_runV (As := []) hx hb hml hown hT hE hW hl.1 (Or.inl (by decide)) (so_268 h0 g _) rfl cf_X11_here wq1391 wq106 wq1389 (c_X11_here l D g T h0 s_197 hW.2.1 q197_2 q197_3 q197_4 q197_5) ⟨rfl, rfl, ⟨by decide, by decide⟩, ⟨by decide, by decide⟩⟩ rfl rfl (Nat.le_of_ble_eq_true rfl) dX11_readsStep_198) hW (fun x92 s93 H locs rx92 hp94 hW => ?_)
                  obtain ⟨es93, hp94⟩ := hp94
                  subst es93
                  have ghp94 := hp94
                  have q95 : s_197 268 9 = s_197 268 9 := rfl
                  have q96 : s_197 291 = s_197 291 := rfl
                  have q97 : s_197 292 = s_197 292 := rfl
                  have q98 : s_197 268 35 = s_197 268 35 := rfl
                  have q99 : s_197 268 34 = s_197 268 34 := rfl
                  refine x_bipush hx hb dX11_readsStep_201 (by decide) ?_
                  refine x_icmp_ne (tgt := 269) hx hb rx92 (by decide) dX11_readsStep_203 (by decide) (fun c100 => ?_) (fun c100 => ?_)
                  · skip
                    refine x_iconst hx hb dX11_readsStep_269 ?_
                    rw [eQ]
                    exact x_zret hx hb hr hlk hW (by omega) ⟨hF_197, ⟨q197_2, q197_3, q197_4, q197_5, q197_6, q197_7, q197_9, q197_10, q197_11, q197_12, trivial⟩, by first | exact Or.inl ⟨by omega, by omega⟩ | exact Or.inr ⟨rfl, v197_0, by omega⟩⟩ dX11_readsStep_270
                  refine x_aload_n hx hb hl 0 rfl dX11_readsStep_206 rfl ?_
                  refine x_get (j := 35) (v := .int (xJ (s_197 268 35))) hx hb hown hT hE hW cls_X11 (Or.inl (by decide)) (so_268 h0 g _) (by decide) rfl wq1220 dX11_readsStep_207 ?_
                  refine x_rd hW (fun x101 ex101 rx101 => ?_)
                  have fx101 : x101 = s_197 268 35 := ex101.trans q98
                  refine x_if_le (tgt := 269) hx hb rx101 dX11_readsStep_210 (by decide) (fun c102 => ?_) (fun c102 => ?_)
                  · skip
                    refine x_iconst hx hb dX11_readsStep_269 ?_
                    rw [eQ]
                    exact x_zret hx hb hr hlk hW (by omega) ⟨hF_197, ⟨q197_2, q197_3, q197_4, q197_5, q197_6, q197_7, q197_9, q197_10, q197_11, q197_12, trivial⟩, by first | exact Or.inl ⟨by omega, by omega⟩ | exact Or.inr ⟨rfl, v197_0, by omega⟩⟩ dX11_readsStep_270
                  refine x_aload_n hx hb hl 0 rfl dX11_readsStep_213 rfl ?_
                  refine x_aload_n hx hb hl 0 rfl dX11_readsStep_214 rfl ?_
                  refine x_get (j := 9) (v := .int (xJ (s_197 268 9))) hx hb hown hT hE hW cls_X11 (Or.inl (by decide)) (so_268 h0 g _) (by decide) rfl wq1194 dX11_readsStep_215 ?_
                  refine x_rd hW (fun x103 ex103 rx103 => ?_)
                  have bx103 : 0 ≤ x103 ∧ x103 ≤ s_197 268 10 ∧ s_197 268 10 ≤ 240 := by rw [ex103]; exact q197_5
                  have fx103 : x103 = s_197 268 9 := ex103.trans q95
                  refine x_iconst hx hb dX11_readsStep_218 ?_
                  refine x_iadd hx hb dX11_readsStep_219 ?_
                  refine x_put (j := 9) hx hb hown hT hE hW cls_X11 (by decide) (fun σ => so_268 h0 g σ) (by decide) (st_X11_9 h0 s_197 268 (x103 + 1)) (ln_X11_9 h0 _ _) wq1194 rfl rfl rfl (by omega) dX11_readsStep_220 (fun H locs s104 es104 hW => ?_)
                  have q105 : IMn s104 := by rw [es104]; exact IMn_268 q197_2 (by omega)
                  have q106 : IMk s104 := by rw [es104]; exact IMk_268 q197_3 (by omega)
                  have q107 : IMo s104 := by rw [es104]; exact IMo_o (by unfold suIMo; omega) q197_4
                  have q108 : IR s104 := by rw [es104]; exact IR_268 q197_5 (by omega)
                  have q109 : s104 268 8 = s0 268 8 := (show s104 268 8 = s_197 268 8 from by rw [es104, xU_j _ _ (by decide)]).trans q197_6
                  have q110 : s104 268 58 = s0 268 58 := (show s104 268 58 = s_197 268 58 from by rw [es104, xU_j _ _ (by decide)]).trans q197_7
                  have q111 : s104 268 10 = s0 268 10 := (show s104 268 10 = s_197 268 10 from by rw [es104, xU_j _ _ (by decide)]).trans q197_9
                  have q112 : s104 268 14 = s0 268 14 := (show s104 268 14 = s_197 268 14 from by rw [es104, xU_j _ _ (by decide)]).trans q197_10
                  have q113 : s104 268 15 = s0 268 15 := (show s104 268 15 = s_197 268 15 from by rw [es104, xU_j _ _ (by decide)]).trans q197_11
                  have q114 : s104 268 16 = s0 268 16 := (show s104 268 16 = s_197 268 16 from by rw [es104, xU_j _ _ (by decide)]).trans q197_12
                  have q115 : s104 268 36 = s66 268 36 := (show s104 268 36 = s_197 268 36 from by rw [es104, xU_j _ _ (by decide)]).trans q197_14
                  have q116 : s104 268 37 = s_4 268 37 := (show s104 268 37 = s_197 268 37 from by rw [es104, xU_j _ _ (by decide)]).trans q197_15
                  have q117 : s104 268 9 = (x103 + 1) := by rw [es104, xU_s]
                  have q118 : s104 291 = s_197 291 := (show s104 291 = s_197 291 from by rw [es104, xU_k _ _ _ (by omega)]).trans q96
                  have q119 : s104 292 = s_197 292 := (show s104 292 = s_197 292 from by rw [es104, xU_k _ _ _ (by omega)]).trans q97
                  have q120 : s104 268 35 = s_197 268 35 := (show s104 268 35 = s_197 268 35 from by rw [es104, xU_j _ _ (by decide)]).trans q98
                  have q121 : s104 268 34 = s_197 268 34 := (show s104 268 34 = s_197 268 34 from by rw [es104, xU_j _ _ (by decide)]).trans q99
                  have hF122 := hF_197.put es104 (by omega)
                  refine x_aload_n hx hb hl 0 rfl dX11_readsStep_223 rfl ?_
                  refine x_aload_n hx hb hl 0 rfl dX11_readsStep_224 rfl ?_
                  refine x_get (j := 35) (v := .int (xJ (s104 268 35))) hx hb hown hT hE hW cls_X11 (Or.inl (by decide)) (so_268 h0 g _) (by decide) rfl wq1220 dX11_readsStep_225 ?_
                  refine x_rd hW (fun x123 ex123 rx123 => ?_)
                  have fx123 : x123 = s_197 268 35 := ex123.trans q120
                  refine x_iconst hx hb dX11_readsStep_228 ?_
                  refine x_isub hx hb dX11_readsStep_229 ?_
                  refine x_put (j := 35) hx hb hown hT hE hW cls_X11 (by decide) (fun σ => so_268 h0 g σ) (by decide) (st_X11_35 h0 s104 268 (x123 - 1)) (ln_X11_35 h0 _ _) wq1220 rfl rfl rfl (by omega) dX11_readsStep_230 (fun H locs s124 es124 hW => ?_)
                  have q125 : IMn s124 := by rw [es124]; exact IMn_268 q105 (by omega)
                  have q126 : IMk s124 := by rw [es124]; exact IMk_268 q106 (by omega)
                  have q127 : IMo s124 := by rw [es124]; exact IMo_o (by unfold suIMo; omega) q107
                  have q128 : IR s124 := by rw [es124]; exact IR_268 q108 (by omega)
                  have q129 : s124 268 8 = s0 268 8 := (show s124 268 8 = s104 268 8 from by rw [es124, xU_j _ _ (by decide)]).trans q109
                  have q130 : s124 268 58 = s0 268 58 := (show s124 268 58 = s104 268 58 from by rw [es124, xU_j _ _ (by decide)]).trans q110
                  have q131 : s124 268 10 = s0 268 10 := (show s124 268 10 = s104 268 10 from by rw [es124, xU_j _ _ (by decide)]).trans q111
                  have q132 : s124 268 14 = s0 268 14 := (show s124 268 14 = s104 268 14 from by rw [es124, xU_j _ _ (by decide)]).trans q112
                  have q133 : s124 268 15 = s0 268 15 := (show s124 268 15 = s104 268 15 from by rw [es124, xU_j _ _ (by decide)]).trans q113
                  have q134 : s124 268 16 = s0 268 16 := (show s124 268 16 = s104 268 16 from by rw [es124, xU_j _ _ (by decide)]).trans q114
                  have q135 : s124 268 36 = s66 268 36 := (show s124 268 36 = s104 268 36 from by rw [es124, xU_j _ _ (by decide)]).trans q115
                  have q136 : s124 268 37 = s_4 268 37 := (show s124 268 37 = s104 268 37 from by rw [es124, xU_j _ _ (by decide)]).trans q116
                  have q137 : s124 268 9 = (x103 + 1) := (show s124 268 9 = s104 268 9 from by rw [es124, xU_j _ _ (by decide)]).trans q117
                  have q138 : s124 291 = s_197 291 := (show s124 291 = s104 291 from by rw [es124, xU_k _ _ _ (by omega)]).trans q118
                  have q139 : s124 292 = s_197 292 := (show s124 292 = s104 292 from by rw [es124, xU_k _ _ _ (by omega)]).trans q119
                  have q140 : s124 268 35 = (x123 - 1) := by rw [es124, xU_s]
                  have q141 : s124 268 34 = s_197 268 34 := (show s124 268 34 = s104 268 34 from by rw [es124, xU_j _ _ (by decide)]).trans q121
                  have hF142 := hF122.put es124 (by omega)
                  refine x_aload_n hx hb hl 0 rfl dX11_readsStep_233 rfl ?_
                  refine x_aload_n hx hb hl 0 rfl dX11_readsStep_234 rfl ?_
                  refine x_get (j := 32) (v := .ref (h0 + 291)) hx hb hown hT hE hW cls_X11 (Or.inl (by decide)) (so_268 h0 g _) (by decide) rfl wq1217 dX11_readsStep_235 ?_
                  refine x_aload_n hx hb hl 0 rfl dX11_readsStep_238 rfl ?_
                  refine x_get (j := 35) (v := .int (xJ (s124 268 35))) hx hb hown hT hE hW cls_X11 (Or.inl (by decide)) (so_268 h0 g _) (by decide) rfl wq1220 dX11_readsStep_239 ?_
                  refine x_rd hW (fun x143 ex143 rx143 => ?_)
                  have fx143 : x143 = (x123 - 1) := ex143.trans q140
                  refine x_iald hx hb hE hW (Or.inl (by decide)) (sa_291 h0 g _) (by omega) (by decide) dX11_readsStep_242 ?_
                  refine x_rd hW (fun x144 ex144 rx144 => ?_)
                  have gx144 := v197_0.2.2 x143 (by omega) (by omega)
                  have hx144 : x144 = s_197 291 x143 := ex144.trans (congrFun q138 _)
                  refine x_aload_n hx hb hl 0 rfl dX11_readsStep_243 rfl ?_
                  refine x_get (j := 33) (v := .ref (h0 + 292)) hx hb hown hT hE hW cls_X11 (Or.inl (by decide)) (so_268 h0 g _) (by decide) rfl wq1218 dX11_readsStep_244 ?_
                  refine x_aload_n hx hb hl 0 rfl dX11_readsStep_247 rfl ?_
                  refine x_get (j := 35) (v := .int (xJ (s124 268 35))) hx hb hown hT hE hW cls_X11 (Or.inl (by decide)) (so_268 h0 g _) (by decide) rfl wq1220 dX11_readsStep_248 ?_
                  refine x_rd hW (fun x145 ex145 rx145 => ?_)
                  have fx145 : x145 = (x123 - 1) := ex145.trans q140
                  refine x_iald hx hb hE hW (Or.inl (by decide)) (sa_292 h0 g _) (by omega) (by decide) dX11_readsStep_251 ?_
                  refine x_rd hW (fun x146 ex146 rx146 => ?_)
                  have gx146 := v197_0.2.2 x145 (by omega) (by omega)
                  have hx146 : x146 = s_197 292 x145 := ex146.trans (congrFun q139 _)
                  refine x_aload_n hx hb hl 0 rfl dX11_readsStep_252 rfl ?_
                  refine x_get (j := 31) (v := .ref (h0 + 290)) hx hb hown hT hE hW cls_X11 (Or.inl (by decide)) (so_268 h0 g _) (by decide) rfl wq1216 dX11_readsStep_253 ?_
                  refine x_aload_n hx hb hl 0 rfl dX11_readsStep_256 rfl ?_
                  refine x_get (j := 35) (v := .int (xJ (s124 268 35))) hx hb hown hT hE hW cls_X11 (Or.inl (by decide)) (so_268 h0 g _) (by decide) rfl wq1220 dX11_readsStep_257 ?_
                  refine x_rd hW (fun x147 ex147 rx147 => ?_)
                  have fx147 : x147 = (x123 - 1) := ex147.trans q140
                  refine x_iald hx hb hE hW (Or.inl (by decide)) (sa_290 h0 g _) (by omega) (by decide) dX11_readsStep_260 ?_
                  refine x_rd hW (fun x148 ex148 rx148 => ?_)
                  refine x_goi (x_runV (As := [.int (xJ x144), .int (xJ x146), .int (xJ x148)]) hx hb hml hown hT hE hW hl.1 (Or.inl (by decide)) (so_268 h0 g _) rfl cf_X11_repeats wq1457 wq114 wq1455 (c_X11_repeats l D g T h0 s124 hW.2.1 x144 rx144 x146 rx146 x148 rx148 (by omega) (by omega) q125 q126 q127 q128) ⟨rfl, rfl, ⟨by decide, by decide⟩, ⟨by decide, by decide⟩⟩ rfl rfl (Nat.le_of_ble_eq_true rfl) dX11_readsStep_261) hW (fun x149 s150 H locs rx149 hp151 hW => ?_)
                  obtain ⟨fs150, hp151⟩ := hp151
                  have hF152 := hF142.call fs150 (fun k h => by omega)
                  have q153 : s150 291 = s_197 291 := (fs150 _ (by omega)).trans q138
                  have q154 : s150 292 = s_197 292 := (fs150 _ (by omega)).trans q139
                  have ghp151 := hp151.2
                  refine x_if_ne (tgt := 197) hx hb rx149 dX11_readsStep_264 (by decide) (fun c155 => ?_) (fun c155 => ?_)
                  · skip
                    exact ih197 s150 H locs ls hF152 hp151.1.1 hp151.1.2.1 hp151.1.2.2.1 hp151.1.2.2.2.1 (hp151.1.2.2.2.2.1.trans q129) (hp151.1.2.2.2.2.2.1.trans q130) (hp151.1.2.2.2.2.2.2.2.1.trans q131) (hp151.1.2.2.2.2.2.2.2.2.1.trans q132) (hp151.1.2.2.2.2.2.2.2.2.2.1.trans q133) (hp151.1.2.2.2.2.2.2.2.2.2.2.1.trans q134) (hp151.1.2.2.2.2.2.2.2.2.2.2.2.2.1.trans q135) (hp151.1.2.2.2.2.2.2.2.2.2.2.2.2.2.1.trans q136) (v197_0.f (by omega) (by omega) q153 q154) (by omega) (by omega) hW (lv_sub hl [0] rfl)
                  refine x_iconst hx hb dX11_readsStep_267 ?_
                  rw [eQ]
                  exact x_zret hx hb hr hlk hW (by omega) ⟨hF152, ⟨hp151.1.1, hp151.1.2.1, hp151.1.2.2.1, hp151.1.2.2.2.1, (hp151.1.2.2.2.2.1.trans q129), (hp151.1.2.2.2.2.2.1.trans q130), (hp151.1.2.2.2.2.2.2.2.1.trans q131), (hp151.1.2.2.2.2.2.2.2.2.1.trans q132), (hp151.1.2.2.2.2.2.2.2.2.2.1.trans q133), (hp151.1.2.2.2.2.2.2.2.2.2.2.1.trans q134), trivial⟩, by first | exact Or.inl ⟨by omega, by omega⟩ | exact Or.inr ⟨rfl, v197_0, by omega⟩⟩ dX11_readsStep_268
              exact L197 ((241 - s86 268 9 : Int).toNat + 1) s86 H locs ls hF88 hp87.1.1 hp87.1.2.1 hp87.1.2.2.1 hp87.1.2.2.2.1 (hp87.1.2.2.2.2.1.trans q71) (hp87.1.2.2.2.2.2.1.trans q72) (hp87.1.2.2.2.2.2.2.2.1.trans q73) (hp87.1.2.2.2.2.2.2.2.2.1.trans q74) (hp87.1.2.2.2.2.2.2.2.2.2.1.trans q75) (hp87.1.2.2.2.2.2.2.2.2.2.2.1.trans q76) hp87.1.2.2.2.2.2.2.2.2.2.2.2.2.1 (hp87.1.2.2.2.2.2.2.2.2.2.2.2.2.2.1.trans q79) (v4_0.f (by omega) (by omega) q89 q90) (by omega) (Nat.lt_succ_self _) hW (lv_sub hl [3] rfl)
            refine x_iconst hx hb dX11_readsStep_195 ?_
            rw [eQ]
            exact x_zret hx hb hr hlk hW (by omega) ⟨hF88, ⟨hp87.1.1, hp87.1.2.1, hp87.1.2.2.1, hp87.1.2.2.2.1, (hp87.1.2.2.2.2.1.trans q71), (hp87.1.2.2.2.2.2.1.trans q72), (hp87.1.2.2.2.2.2.2.2.1.trans q73), (hp87.1.2.2.2.2.2.2.2.2.1.trans q74), (hp87.1.2.2.2.2.2.2.2.2.2.1.trans q75), (hp87.1.2.2.2.2.2.2.2.2.2.2.1.trans q76), trivial⟩, by first | exact Or.inl ⟨by omega, by omega⟩ | exact Or.inr ⟨rfl, v197_0, by omega⟩⟩ dX11_readsStep_196
          refine x_aload_n hx hb hl 3 rfl dX11_readsStep_151 rfl ?_
          refine x_bipush hx hb dX11_readsStep_152 (by decide) ?_
          refine x_iload_n hx hb hl 2 rfl dX11_readsStep_154 rfl ?_
          refine x_goi (x_runV (As := [.int (xJ 6), .int (xJ x12)]) hx hb hml hown hT hE hW hl.1 (Or.inl (by decide)) (so_268 h0 g _) rfl cf_X11_wrongAt wq1401 wq107 wq1399 (c_X11_wrongAt l D g T h0 s24 hW.2.1 6 (by decide) x12 rx12 q25 q26 q27 q28) ⟨rfl, rfl, ⟨by decide, by decide⟩, ⟨by decide, by decide⟩⟩ rfl rfl (Nat.le_of_ble_eq_true rfl) dX11_readsStep_155) hW (fun x156 s157 H locs rx156 hp158 hW => ?_)
          obtain ⟨fs157, hp158⟩ := hp158
          have hF159 := hF41.call fs157 (fun k h => by omega)
          have q160 : s157 291 = s_4 291 := (fs157 _ (by omega)).trans q39
          have q161 : s157 292 = s_4 292 := (fs157 _ (by omega)).trans q40
          have ghp158 := hp158.2
          rw [eQ]
          exact x_zret hx hb hr hlk hW (by omega) ⟨hF159, ⟨hp158.1.1, hp158.1.2.1, hp158.1.2.2.1, hp158.1.2.2.2.1, (hp158.1.2.2.2.2.1.trans q29), (hp158.1.2.2.2.2.2.1.trans q30), (hp158.1.2.2.2.2.2.2.2.1.trans q31), (hp158.1.2.2.2.2.2.2.2.2.1.trans q32), (hp158.1.2.2.2.2.2.2.2.2.2.1.trans q33), (hp158.1.2.2.2.2.2.2.2.2.2.2.1.trans q34), trivial⟩, by first | exact Or.inl ⟨by omega, by omega⟩ | exact Or.inr ⟨rfl, v197_0, by omega⟩⟩ dX11_readsStep_158
        refine x_aload_n hx hb hl 3 rfl dX11_readsStep_120 rfl ?_
        refine x_iconst hx hb dX11_readsStep_121 ?_
        refine x_aload_n hx hb hl 3 rfl dX11_readsStep_122 rfl ?_
        refine x_get (j := 9) (v := .int (xJ (s_4 268 9))) hx hb hown hT hE hW cls_X11 (Or.inl (by decide)) (so_268 h0 g _) (by decide) rfl wq1194 dX11_readsStep_123 ?_
        refine x_rd hW (fun x162 ex162 rx162 => ?_)
        have bx162 : 0 ≤ x162 ∧ x162 ≤ s_4 268 10 ∧ s_4 268 10 ≤ 240 := by rw [ex162]; exact q4_3
        have fx162 : x162 = s_4 268 9 := ex162.trans q8
        refine x_goi (x_runV (As := [.int (xJ 1), .int (xJ x162)]) hx hb hml hown hT hE hW hl.1 (Or.inl (by decide)) (so_268 h0 g _) rfl cf_X11_wrongAt wq1401 wq107 wq1399 (c_X11_wrongAt l D g T h0 s_4 hW.2.1 1 (by decide) x162 rx162 q4_0 q4_1 q4_2 q4_3) ⟨rfl, rfl, ⟨by decide, by decide⟩, ⟨by decide, by decide⟩⟩ rfl rfl (Nat.le_of_ble_eq_true rfl) dX11_readsStep_126) hW (fun x163 s164 H locs rx163 hp165 hW => ?_)
        obtain ⟨fs164, hp165⟩ := hp165
        have hF166 := hF_4.call fs164 (fun k h => by omega)
        have q167 : s164 291 = s_4 291 := (fs164 _ (by omega)).trans q13
        have q168 : s164 292 = s_4 292 := (fs164 _ (by omega)).trans q14
        have ghp165 := hp165.2
        rw [eQ]
        exact x_zret hx hb hr hlk hW (by omega) ⟨hF166, ⟨hp165.1.1, hp165.1.2.1, hp165.1.2.2.1, hp165.1.2.2.2.1, (hp165.1.2.2.2.2.1.trans q4_4), (hp165.1.2.2.2.2.2.1.trans q4_5), (hp165.1.2.2.2.2.2.2.2.1.trans q4_6), (hp165.1.2.2.2.2.2.2.2.2.1.trans q4_7), (hp165.1.2.2.2.2.2.2.2.2.2.1.trans q4_8), (hp165.1.2.2.2.2.2.2.2.2.2.2.1.trans q4_9), trivial⟩, by first | exact Or.inl ⟨by omega, by omega⟩ | exact Or.inr ⟨rfl, v197_0, by omega⟩⟩ dX11_readsStep_129
      refine x_aload_n hx hb hl 0 rfl dX11_readsStep_13 rfl ?_
      refine x_get (j := 35) (v := .int (xJ (s_4 268 35))) hx hb hown hT hE hW cls_X11 (Or.inl (by decide)) (so_268 h0 g _) (by decide) rfl wq1220 dX11_readsStep_14 ?_
      refine x_rd hW (fun x169 ex169 rx169 => ?_)
      have fx169 : x169 = s_4 268 35 := ex169.trans q10
      refine x_iconst hx hb dX11_readsStep_17 ?_
      refine x_icmp_ne (tgt := 31) hx hb rx169 (by decide) dX11_readsStep_18 (by decide) (fun c170 => ?_) (fun c170 => ?_)
      · skip
        refine x_aload_n hx hb hl 0 rfl dX11_readsStep_31 rfl ?_
        refine x_get (j := 31) (v := .ref (h0 + 290)) hx hb hown hT hE hW cls_X11 (Or.inl (by decide)) (so_268 h0 g _) (by decide) rfl wq1216 dX11_readsStep_32 ?_
        refine x_aload_n hx hb hl 0 rfl dX11_readsStep_35 rfl ?_
        refine x_get (j := 35) (v := .int (xJ (s_4 268 35))) hx hb hown hT hE hW cls_X11 (Or.inl (by decide)) (so_268 h0 g _) (by decide) rfl wq1220 dX11_readsStep_36 ?_
        refine x_rd hW (fun x171 ex171 rx171 => ?_)
        have fx171 : x171 = s_4 268 35 := ex171.trans q10
        refine x_aload_n hx hb hl 0 rfl dX11_readsStep_39 rfl ?_
        refine x_get (j := 36) (v := .int (xJ (s_4 268 36))) hx hb hown hT hE hW cls_X11 (Or.inl (by decide)) (so_268 h0 g _) (by decide) rfl wq1221 dX11_readsStep_40 ?_
        refine x_rd hW (fun x172 ex172 rx172 => ?_)
        refine x_iast hx hb hE hW (by decide) (fun σ => sa_290 h0 g σ) (by omega) (by decide) rx172 dX11_readsStep_43 (fun H locs s173 es173 hW => ?_)
        have q174 : IMn s173 := by rw [es173]; exact IMn_o (by unfold suIMn; omega) q4_0
        have q175 : IMk s173 := by rw [es173]; exact IMk_o (by unfold suIMk; omega) q4_1
        have q176 : IMo s173 := by rw [es173]; exact IMo_o (by unfold suIMo; omega) q4_2
        have q177 : IR s173 := by rw [es173]; exact IR_o (by unfold suIR; omega) q4_3
        have q178 : s173 268 8 = s0 268 8 := (show s173 268 8 = s_4 268 8 from by rw [es173, xU_k _ _ _ (by omega)]).trans q4_4
        have q179 : s173 268 58 = s0 268 58 := (show s173 268 58 = s_4 268 58 from by rw [es173, xU_k _ _ _ (by omega)]).trans q4_5
        have q180 : s173 268 10 = s0 268 10 := (show s173 268 10 = s_4 268 10 from by rw [es173, xU_k _ _ _ (by omega)]).trans q4_6
        have q181 : s173 268 14 = s0 268 14 := (show s173 268 14 = s_4 268 14 from by rw [es173, xU_k _ _ _ (by omega)]).trans q4_7
        have q182 : s173 268 15 = s0 268 15 := (show s173 268 15 = s_4 268 15 from by rw [es173, xU_k _ _ _ (by omega)]).trans q4_8
        have q183 : s173 268 16 = s0 268 16 := (show s173 268 16 = s_4 268 16 from by rw [es173, xU_k _ _ _ (by omega)]).trans q4_9
        have q184 : s173 268 34 = s0 268 34 := (show s173 268 34 = s_4 268 34 from by rw [es173, xU_k _ _ _ (by omega)]).trans q4_10
        have q185 : s173 268 9 = s_4 268 9 := (show s173 268 9 = s_4 268 9 from by rw [es173, xU_k _ _ _ (by omega)]).trans q8
        have q186 : s173 268 37 = s_4 268 37 := (show s173 268 37 = s_4 268 37 from by rw [es173, xU_k _ _ _ (by omega)]).trans q9
        have q187 : s173 268 35 = s_4 268 35 := (show s173 268 35 = s_4 268 35 from by rw [es173, xU_k _ _ _ (by omega)]).trans q10
        have hF188 := hF_4.put es173 (by omega)
        have E43 := es173
        refine x_aload_n hx hb hl 0 rfl dX11_readsStep_44 rfl ?_
        refine x_get (j := 32) (v := .ref (h0 + 291)) hx hb hown hT hE hW cls_X11 (Or.inl (by decide)) (so_268 h0 g _) (by decide) rfl wq1217 dX11_readsStep_45 ?_
        refine x_aload_n hx hb hl 0 rfl dX11_readsStep_48 rfl ?_
        refine x_get (j := 35) (v := .int (xJ (s173 268 35))) hx hb hown hT hE hW cls_X11 (Or.inl (by decide)) (so_268 h0 g _) (by decide) rfl wq1220 dX11_readsStep_49 ?_
        refine x_rd hW (fun x189 ex189 rx189 => ?_)
        have fx189 : x189 = s_4 268 35 := ex189.trans q187
        refine x_aload_n hx hb hl 0 rfl dX11_readsStep_52 rfl ?_
        refine x_get (j := 34) (v := .int (xJ (s173 268 34))) hx hb hown hT hE hW cls_X11 (Or.inl (by decide)) (so_268 h0 g _) (by decide) rfl wq1219 dX11_readsStep_53 ?_
        refine x_rd hW (fun x190 ex190 rx190 => ?_)
        have fx190 : x190 = s0 268 34 := ex190.trans q184
        refine x_iast hx hb hE hW (by decide) (fun σ => sa_291 h0 g σ) (by omega) (by decide) rx190 dX11_readsStep_56 (fun H locs s191 es191 hW => ?_)
        have q192 : IMn s191 := by rw [es191]; exact IMn_o (by unfold suIMn; omega) q174
        have q193 : IMk s191 := by rw [es191]; exact IMk_o (by unfold suIMk; omega) q175
        have q194 : IMo s191 := by rw [es191]; exact IMo_o (by unfold suIMo; omega) q176
        have q195 : IR s191 := by rw [es191]; exact IR_o (by unfold suIR; omega) q177
        have q196 : s191 268 8 = s0 268 8 := (show s191 268 8 = s173 268 8 from by rw [es191, xU_k _ _ _ (by omega)]).trans q178
        have q197 : s191 268 58 = s0 268 58 := (show s191 268 58 = s173 268 58 from by rw [es191, xU_k _ _ _ (by omega)]).trans q179
        have q198 : s191 268 10 = s0 268 10 := (show s191 268 10 = s173 268 10 from by rw [es191, xU_k _ _ _ (by omega)]).trans q180
        have q199 : s191 268 14 = s0 268 14 := (show s191 268 14 = s173 268 14 from by rw [es191, xU_k _ _ _ (by omega)]).trans q181
        have q200 : s191 268 15 = s0 268 15 := (show s191 268 15 = s173 268 15 from by rw [es191, xU_k _ _ _ (by omega)]).trans q182
        have q201 : s191 268 16 = s0 268 16 := (show s191 268 16 = s173 268 16 from by rw [es191, xU_k _ _ _ (by omega)]).trans q183
        have q202 : s191 268 34 = s0 268 34 := (show s191 268 34 = s173 268 34 from by rw [es191, xU_k _ _ _ (by omega)]).trans q184
        have q203 : s191 268 9 = s_4 268 9 := (show s191 268 9 = s173 268 9 from by rw [es191, xU_k _ _ _ (by omega)]).trans q185
        have q204 : s191 268 37 = s_4 268 37 := (show s191 268 37 = s173 268 37 from by rw [es191, xU_k _ _ _ (by omega)]).trans q186
        have q205 : s191 268 35 = s_4 268 35 := (show s191 268 35 = s173 268 35 from by rw [es191, xU_k _ _ _ (by omega)]).trans q187
        have hF206 := hF188.put es191 (by omega)
        have q207 : s191 291 = xud (s_4 291) (s_4 268 35) (s_4 268 34) := by rw [es191, xU_xud, E43, xU_k _ _ _ (by omega), show x189 = s_4 268 35 from by omega, show x190 = s_4 268 34 from by omega]
        have E56 := es191
        refine x_aload_n hx hb hl 0 rfl dX11_readsStep_57 rfl ?_
        refine x_get (j := 33) (v := .ref (h0 + 292)) hx hb hown hT hE hW cls_X11 (Or.inl (by decide)) (so_268 h0 g _) (by decide) rfl wq1218 dX11_readsStep_58 ?_
        refine x_aload_n hx hb hl 0 rfl dX11_readsStep_61 rfl ?_
        refine x_get (j := 35) (v := .int (xJ (s191 268 35))) hx hb hown hT hE hW cls_X11 (Or.inl (by decide)) (so_268 h0 g _) (by decide) rfl wq1220 dX11_readsStep_62 ?_
        refine x_rd hW (fun x208 ex208 rx208 => ?_)
        have fx208 : x208 = s_4 268 35 := ex208.trans q205
        refine x_aload_n hx hb hl 0 rfl dX11_readsStep_65 rfl ?_
        refine x_get (j := 37) (v := .int (xJ (s191 268 37))) hx hb hown hT hE hW cls_X11 (Or.inl (by decide)) (so_268 h0 g _) (by decide) rfl wq1222 dX11_readsStep_66 ?_
        refine x_rd hW (fun x209 ex209 rx209 => ?_)
        have fx209 : x209 = s_4 268 37 := ex209.trans q204
        refine x_iast hx hb hE hW (by decide) (fun σ => sa_292 h0 g σ) (by omega) (by decide) rx209 dX11_readsStep_69 (fun H locs s210 es210 hW => ?_)
        have q211 : IMn s210 := by rw [es210]; exact IMn_o (by unfold suIMn; omega) q192
        have q212 : IMk s210 := by rw [es210]; exact IMk_o (by unfold suIMk; omega) q193
        have q213 : IMo s210 := by rw [es210]; exact IMo_o (by unfold suIMo; omega) q194
        have q214 : IR s210 := by rw [es210]; exact IR_o (by unfold suIR; omega) q195
        have q215 : s210 268 8 = s0 268 8 := (show s210 268 8 = s191 268 8 from by rw [es210, xU_k _ _ _ (by omega)]).trans q196
        have q216 : s210 268 58 = s0 268 58 := (show s210 268 58 = s191 268 58 from by rw [es210, xU_k _ _ _ (by omega)]).trans q197
        have q217 : s210 268 10 = s0 268 10 := (show s210 268 10 = s191 268 10 from by rw [es210, xU_k _ _ _ (by omega)]).trans q198
        have q218 : s210 268 14 = s0 268 14 := (show s210 268 14 = s191 268 14 from by rw [es210, xU_k _ _ _ (by omega)]).trans q199
        have q219 : s210 268 15 = s0 268 15 := (show s210 268 15 = s191 268 15 from by rw [es210, xU_k _ _ _ (by omega)]).trans q200
        have q220 : s210 268 16 = s0 268 16 := (show s210 268 16 = s191 268 16 from by rw [es210, xU_k _ _ _ (by omega)]).trans q201
        have q221 : s210 268 34 = s0 268 34 := (show s210 268 34 = s191 268 34 from by rw [es210, xU_k _ _ _ (by omega)]).trans q202
        have q222 : s210 268 9 = s_4 268 9 := (show s210 268 9 = s191 268 9 from by rw [es210, xU_k _ _ _ (by omega)]).trans q203
        have q223 : s210 268 37 = s_4 268 37 := (show s210 268 37 = s191 268 37 from by rw [es210, xU_k _ _ _ (by omega)]).trans q204
        have q224 : s210 268 35 = s_4 268 35 := (show s210 268 35 = s191 268 35 from by rw [es210, xU_k _ _ _ (by omega)]).trans q205
        have q225 : s210 291 = xud (s_4 291) (s_4 268 35) (s_4 268 34) := (show s210 291 = s191 291 from by rw [es210, xU_k _ _ _ (by omega)]).trans q207
        have hF226 := hF206.put es210 (by omega)
        have q227 : s210 292 = xud (s_4 292) (s_4 268 35) (s_4 268 37) := by rw [es210, xU_xud, E56, xU_k _ _ _ (by omega), E43, xU_k _ _ _ (by omega), show x208 = s_4 268 35 from by omega, show x209 = s_4 268 37 from by omega]
        refine x_aload_n hx hb hl 0 rfl dX11_readsStep_70 rfl ?_
        refine x_aload_n hx hb hl 0 rfl dX11_readsStep_71 rfl ?_
        refine x_get (j := 35) (v := .int (xJ (s210 268 35))) hx hb hown hT hE hW cls_X11 (Or.inl (by decide)) (so_268 h0 g _) (by decide) rfl wq1220 dX11_readsStep_72 ?_
        refine x_rd hW (fun x228 ex228 rx228 => ?_)
        have fx228 : x228 = s_4 268 35 := ex228.trans q224
        refine x_iconst hx hb dX11_readsStep_75 ?_
        refine x_iadd hx hb dX11_readsStep_76 ?_
        refine x_put (j := 35) hx hb hown hT hE hW cls_X11 (by decide) (fun σ => so_268 h0 g σ) (by decide) (st_X11_35 h0 s210 268 (x228 + 1)) (ln_X11_35 h0 _ _) wq1220 rfl rfl rfl (by omega) dX11_readsStep_77 (fun H locs s229 es229 hW => ?_)
        have q230 : IMn s229 := by rw [es229]; exact IMn_268 q211 (by omega)
        have q231 : IMk s229 := by rw [es229]; exact IMk_268 q212 (by omega)
        have q232 : IMo s229 := by rw [es229]; exact IMo_o (by unfold suIMo; omega) q213
        have q233 : IR s229 := by rw [es229]; exact IR_268 q214 (by omega)
        have q234 : s229 268 8 = s0 268 8 := (show s229 268 8 = s210 268 8 from by rw [es229, xU_j _ _ (by decide)]).trans q215
        have q235 : s229 268 58 = s0 268 58 := (show s229 268 58 = s210 268 58 from by rw [es229, xU_j _ _ (by decide)]).trans q216
        have q236 : s229 268 10 = s0 268 10 := (show s229 268 10 = s210 268 10 from by rw [es229, xU_j _ _ (by decide)]).trans q217
        have q237 : s229 268 14 = s0 268 14 := (show s229 268 14 = s210 268 14 from by rw [es229, xU_j _ _ (by decide)]).trans q218
        have q238 : s229 268 15 = s0 268 15 := (show s229 268 15 = s210 268 15 from by rw [es229, xU_j _ _ (by decide)]).trans q219
        have q239 : s229 268 16 = s0 268 16 := (show s229 268 16 = s210 268 16 from by rw [es229, xU_j _ _ (by decide)]).trans q220
        have q240 : s229 268 34 = s0 268 34 := (show s229 268 34 = s210 268 34 from by rw [es229, xU_j _ _ (by decide)]).trans q221
        have q241 : s229 268 9 = s_4 268 9 := (show s229 268 9 = s210 268 9 from by rw [es229, xU_j _ _ (by decide)]).trans q222
        have q242 : s229 268 37 = s_4 268 37 := (show s229 268 37 = s210 268 37 from by rw [es229, xU_j _ _ (by decide)]).trans q223
        have q243 : s229 268 35 = (x228 + 1) := by rw [es229, xU_s]
        have q244 : s229 291 = xud (s_4 291) (s_4 268 35) (s_4 268 34) := (show s229 291 = s210 291 from by rw [es229, xU_k _ _ _ (by omega)]).trans q225
        have q245 : s229 292 = xud (s_4 292) (s_4 268 35) (s_4 268 37) := (show s229 292 = s210 292 from by rw [es229, xU_k _ _ _ (by omega)]).trans q227
        have hF246 := hF226.put es229 (by omega)
        refine x_aload_n hx hb hl 0 rfl dX11_readsStep_80 rfl ?_
        refine x_aload_n hx hb hl 0 rfl dX11_readsStep_81 rfl ?_
        refine x_get (j := 9) (v := .int (xJ (s229 268 9))) hx hb hown hT hE hW cls_X11 (Or.inl (by decide)) (so_268 h0 g _) (by decide) rfl wq1194 dX11_readsStep_82 ?_
        refine x_rd hW (fun x247 ex247 rx247 => ?_)
        have bx247 : 0 ≤ x247 ∧ x247 ≤ s229 268 10 ∧ s229 268 10 ≤ 240 := by rw [ex247]; exact q233
        have fx247 : x247 = s_4 268 9 := ex247.trans q241
        refine x_iconst hx hb dX11_readsStep_85 ?_
        refine x_iadd hx hb dX11_readsStep_86 ?_
        refine x_put (j := 9) hx hb hown hT hE hW cls_X11 (by decide) (fun σ => so_268 h0 g σ) (by decide) (st_X11_9 h0 s229 268 (x247 + 1)) (ln_X11_9 h0 _ _) wq1194 rfl rfl rfl (by omega) dX11_readsStep_87 (fun H locs s248 es248 hW => ?_)
        have q249 : IMn s248 := by rw [es248]; exact IMn_268 q230 (by omega)
        have q250 : IMk s248 := by rw [es248]; exact IMk_268 q231 (by omega)
        have q251 : IMo s248 := by rw [es248]; exact IMo_o (by unfold suIMo; omega) q232
        have q252 : IR s248 := by rw [es248]; exact IR_268 q233 (by omega)
        have q253 : s248 268 8 = s0 268 8 := (show s248 268 8 = s229 268 8 from by rw [es248, xU_j _ _ (by decide)]).trans q234
        have q254 : s248 268 58 = s0 268 58 := (show s248 268 58 = s229 268 58 from by rw [es248, xU_j _ _ (by decide)]).trans q235
        have q255 : s248 268 10 = s0 268 10 := (show s248 268 10 = s229 268 10 from by rw [es248, xU_j _ _ (by decide)]).trans q236
        have q256 : s248 268 14 = s0 268 14 := (show s248 268 14 = s229 268 14 from by rw [es248, xU_j _ _ (by decide)]).trans q237
        have q257 : s248 268 15 = s0 268 15 := (show s248 268 15 = s229 268 15 from by rw [es248, xU_j _ _ (by decide)]).trans q238
        have q258 : s248 268 16 = s0 268 16 := (show s248 268 16 = s229 268 16 from by rw [es248, xU_j _ _ (by decide)]).trans q239
        have q259 : s248 268 34 = s0 268 34 := (show s248 268 34 = s229 268 34 from by rw [es248, xU_j _ _ (by decide)]).trans q240
        have q260 : s248 268 9 = (x247 + 1) := by rw [es248, xU_s]
        have q261 : s248 268 37 = s_4 268 37 := (show s248 268 37 = s229 268 37 from by rw [es248, xU_j _ _ (by decide)]).trans q242
        have q262 : s248 268 35 = (x228 + 1) := (show s248 268 35 = s229 268 35 from by rw [es248, xU_j _ _ (by decide)]).trans q243
        have q263 : s248 291 = xud (s_4 291) (s_4 268 35) (s_4 268 34) := (show s248 291 = s229 291 from by rw [es248, xU_k _ _ _ (by omega)]).trans q244
        have q264 : s248 292 = xud (s_4 292) (s_4 268 35) (s_4 268 37) := (show s248 292 = s229 292 from by rw [es248, xU_k _ _ _ (by omega)]).trans q245
        have hF265 := hF246.put es248 (by omega)
        refine x_aload_n hx hb hl 0 rfl dX11_readsStep_90 rfl ?_
        refine x_gov (x_runV (As := []) hx hb hml hown hT hE hW hl.1 (Or.inl (by decide)) (so_268 h0 g _) rfl cf_X11_readsTimes wq1450 wq113 wq1448 (c_X11_readsTimes l D g T h0 s248 hW.2.1 q249 q250 q251 q252) ⟨rfl, rfl, ⟨by decide, by decide⟩, ⟨by decide, by decide⟩⟩ rfl rfl (Nat.le_of_ble_eq_true rfl) dX11_readsStep_91) hW (fun s267 H locs hp268 hW => ?_)
        obtain ⟨fs267, hp268⟩ := hp268
        have hF269 := hF265.call fs267 (fun k h => by omega)
        have q270 : s267 291 = xud (s_4 291) (s_4 268 35) (s_4 268 34) := (fs267 _ (by omega)).trans q263
        have q271 : s267 292 = xud (s_4 292) (s_4 268 35) (s_4 268 37) := (fs267 _ (by omega)).trans q264
        have ghp268 := hp268.2
        refine lv_goto (tgt := 4) hx hb dX11_readsStep_94 (by decide) ?_
        exact ih4 s267 H locs ls hF269 hp268.1.1 hp268.1.2.1 hp268.1.2.2.1 hp268.1.2.2.2.1 (hp268.1.2.2.2.2.1.trans q253) (hp268.1.2.2.2.2.2.1.trans q254) (hp268.1.2.2.2.2.2.2.1.trans q255) (hp268.1.2.2.2.2.2.2.2.1.trans q256) (hp268.1.2.2.2.2.2.2.2.2.1.trans q257) (hp268.1.2.2.2.2.2.2.2.2.2.1.trans q258) (hp268.1.2.2.2.2.2.2.2.2.2.2.1.trans q259) (v4_0.push (by omega) (by omega) q270 q271 (by omega)) (by omega) (by omega) (by omega) hW (lv_sub hl [0] rfl)
      refine x_aload_n hx hb hl 0 rfl dX11_readsStep_21 rfl ?_
      refine x_iconst hx hb dX11_readsStep_22 ?_
      refine x_aload_n hx hb hl 0 rfl dX11_readsStep_23 rfl ?_
      refine x_get (j := 9) (v := .int (xJ (s_4 268 9))) hx hb hown hT hE hW cls_X11 (Or.inl (by decide)) (so_268 h0 g _) (by decide) rfl wq1194 dX11_readsStep_24 ?_
      refine x_rd hW (fun x272 ex272 rx272 => ?_)
      have bx272 : 0 ≤ x272 ∧ x272 ≤ s_4 268 10 ∧ s_4 268 10 ≤ 240 := by rw [ex272]; exact q4_3
      have fx272 : x272 = s_4 268 9 := ex272.trans q8
      refine x_goi (x_runV (As := [.int (xJ 5), .int (xJ x272)]) hx hb hml hown hT hE hW hl.1 (Or.inl (by decide)) (so_268 h0 g _) rfl cf_X11_wrongAt wq1401 wq107 wq1399 (c_X11_wrongAt l D g T h0 s_4 hW.2.1 5 (by decide) x272 rx272 q4_0 q4_1 q4_2 q4_3) ⟨rfl, rfl, ⟨by decide, by decide⟩, ⟨by decide, by decide⟩⟩ rfl rfl (Nat.le_of_ble_eq_true rfl) dX11_readsStep_27) hW (fun x273 s274 H locs rx273 hp275 hW => ?_)
      obtain ⟨fs274, hp275⟩ := hp275
      have hF276 := hF_4.call fs274 (fun k h => by omega)
      have ghp275 := hp275.2
      rw [eQ]
      exact x_zret hx hb hr hlk hW (by omega) ⟨hF276, ⟨hp275.1.1, hp275.1.2.1, hp275.1.2.2.1, hp275.1.2.2.2.1, (hp275.1.2.2.2.2.1.trans q4_4), (hp275.1.2.2.2.2.2.1.trans q4_5), (hp275.1.2.2.2.2.2.2.2.1.trans q4_6), (hp275.1.2.2.2.2.2.2.2.2.1.trans q4_7), (hp275.1.2.2.2.2.2.2.2.2.2.1.trans q4_8), (hp275.1.2.2.2.2.2.2.2.2.2.2.1.trans q4_9), trivial⟩, by first | exact Or.inl ⟨by omega, by omega⟩ | exact Or.inr ⟨rfl, v197_0, by omega⟩⟩ dX11_readsStep_30
  exact L4 ((241 - s2 268 9 : Int).toNat + 1) s2 H locs ls hF4 hp3.1.1 hp3.1.2.1 hp3.1.2.2.1 hp3.1.2.2.2.1 (hp3.1.2.2.2.2.1.trans k268_8) (hp3.1.2.2.2.2.2.1.trans k268_58) (hp3.1.2.2.2.2.2.2.1.trans k268_10) (hp3.1.2.2.2.2.2.2.2.1.trans k268_14) (hp3.1.2.2.2.2.2.2.2.2.1.trans k268_15) (hp3.1.2.2.2.2.2.2.2.2.2.1.trans k268_16) (hp3.1.2.2.2.2.2.2.2.2.2.2.1.trans k268_34) (A1.2) (by omega) (by omega) (Nat.lt_succ_self _) hW (lv_sub hl [0] rfl)
set_option maxHeartbeats 4000000 in
set_option maxRecDepth 100000 in
theorem c_X11_walk (l : Launch) (D : va_G) (g : xG) (T : Nat × Nat × Nat) (h0 : Nat) (s0 : xS) (hσ : xRR s0) (j : Int) (rj : xR j) (n : Int) (rn : xR n) (p0 : IMn s0) (p1 : IMk s0) (p2 : IMo s0) : Met l yX11_walk (xws yX11_walk cX11_walk 5 (some .int)) { frames := 3, cells := 0, slots := 0, locals := 70 } (xP [.ref (h0 + 268), .int (xJ j), .int (xJ n)] D g T h0 s0) (xQi D g h0 (fun r τ => xFr (fun k => k = 268 ∨ k = 269 ∨ k = 274 ∨ k = 275 ∨ k = 289 ∨ k = 290 ∨ k = 291 ∨ k = 292) s0 τ ∧ (((IMn τ) ∧ (IMk τ) ∧ (IMo τ) ∧ (τ 268 58 = s0 268 58) ∧ True) ∧ (((j < 0 ∨ 1 < j ∨ n < 1 ∨ 80 < n ∨ s0 268 8 < n) ∧ τ 268 8 = s0 268 8 ∧ r = -1) ∨ (¬ (j < 0 ∨ 1 < j ∨ n < 1 ∨ 80 < n ∨ s0 268 8 < n) ∧ τ 268 8 = 0))))) 0 0 (xA h0) := by
  refine x_met hσ (by decide) (Nat.le_of_ble_eq_true rfl) ?_
  intro p e s m args below meth c hx hb hr hml hown hT hlk hnm hE hW ls hl
  have hl : lv_has ls 5 [(0, .ref (h0 + 268)), (1, .int (xJ j)), (2, .int (xJ n))] := hl
  obtain ⟨Q, eQ⟩ : ∃ Q, Q = MQ below (xQi D g h0 (fun r τ => xFr (fun k => k = 268 ∨ k = 269 ∨ k = 274 ∨ k = 275 ∨ k = 289 ∨ k = 290 ∨ k = 291 ∨ k = 292) s0 τ ∧ (((IMn τ) ∧ (IMk τ) ∧ (IMo τ) ∧ (τ 268 58 = s0 268 58) ∧ True) ∧ (((j < 0 ∨ 1 < j ∨ n < 1 ∨ 80 < n ∨ s0 268 8 < n) ∧ τ 268 8 = s0 268 8 ∧ r = -1) ∨ (¬ (j < 0 ∨ 1 < j ∨ n < 1 ∨ 80 < n ∨ s0 268 8 < n) ∧ τ 268 8 = 0))))) args s 0 0 (xA h0) := ⟨_, rfl⟩
  rw [← eQ]
  generalize hHe : ([] : List Loc) = locs at hW ⊢
  obtain ⟨H, eH⟩ : ∃ H, H = s.heap := ⟨_, rfl⟩
  rw [← eH] at hW ⊢
  have hF : xFr (fun k => k = 268 ∨ k = 269 ∨ k = 274 ∨ k = 275 ∨ k = 289 ∨ k = 290 ∨ k = 291 ∨ k = 292) s0 s0 := xFr.rf
  have k268_58 : s0 268 58 = s0 268 58 := rfl
  have k268_8 : s0 268 8 = s0 268 8 := rfl
  refine x_iload_n hx hb hl 1 rfl dX11_walk_0 rfl ?_
  refine x_iconst hx hb dX11_walk_1 ?_
  refine x_goi (x_runS (As := [.int (xJ j), .int (xJ 2)]) hx hb hml hown hT hE hW hl.1 cf_X11_isFive wq1412 wq1411 (c_X11_isFive l D g T h0 s0 hW.2.1 j rj 2 (by decide)) ⟨rfl, rfl, ⟨by decide, by decide⟩, ⟨by decide, by decide⟩⟩ rfl rfl (Nat.le_of_ble_eq_true rfl) dX11_walk_2) hW (fun x1 s2 H locs rx1 hp3 hW => ?_)
  obtain ⟨es2, hp3⟩ := hp3
  subst es2
  have ghp3 := hp3
  refine x_if_eq (tgt := 26) hx hb rx1 dX11_walk_5 (by decide) (fun c4 => ?_) (fun c4 => ?_)
  · skip
    refine x_iconst hx hb dX11_walk_26 ?_
    rw [eQ]
    exact x_iret hx hb hr hlk hW (by decide) ⟨hF, ⟨p0, p1, p2, k268_58, trivial⟩, by omega⟩ dX11_walk_27
  refine x_iload_n hx hb hl 2 rfl dX11_walk_8 rfl ?_
  refine x_iconst hx hb dX11_walk_9 ?_
  refine x_bipush hx hb dX11_walk_10 (by decide) ?_
  refine x_goi (x_runS (As := [.int (xJ n), .int (xJ 1), .int (xJ 80)]) hx hb hml hown hT hE hW hl.1 cf_X11_in wq1383 wq1382 (c_X11_in l D g T h0 s0 hW.2.1 n rn 1 (by decide) 80 (by decide)) ⟨rfl, rfl, ⟨by decide, by decide⟩, ⟨by decide, by decide⟩⟩ rfl rfl (Nat.le_of_ble_eq_true rfl) dX11_walk_12) hW (fun x5 s6 H locs rx5 hp7 hW => ?_)
  obtain ⟨es6, hp7⟩ := hp7
  subst es6
  have ghp7 := hp7
  refine x_if_eq (tgt := 26) hx hb rx5 dX11_walk_15 (by decide) (fun c8 => ?_) (fun c8 => ?_)
  · skip
    refine x_iconst hx hb dX11_walk_26 ?_
    rw [eQ]
    exact x_iret hx hb hr hlk hW (by decide) ⟨hF, ⟨p0, p1, p2, k268_58, trivial⟩, by omega⟩ dX11_walk_27
  refine x_iload_n hx hb hl 2 rfl dX11_walk_18 rfl ?_
  refine x_aload_n hx hb hl 0 rfl dX11_walk_19 rfl ?_
  refine x_get (j := 8) (v := .int (xJ (s0 268 8))) hx hb hown hT hE hW cls_X11 (Or.inl (by decide)) (so_268 h0 g _) (by decide) rfl wq1193 dX11_walk_20 ?_
  refine x_rd hW (fun x9 ex9 rx9 => ?_)
  have bx9 : 0 ≤ x9 ∧ x9 ≤ 260 := by rw [ex9]; exact IMn.t p0
  have fx9 : x9 = s0 268 8 := ex9.trans k268_8
  refine x_icmp_le (tgt := 28) hx hb rn rx9 dX11_walk_23 (by decide) (fun c10 => ?_) (fun c10 => ?_)
  · skip
    refine x_aload_n hx hb hl 0 rfl dX11_walk_28 rfl ?_
    refine x_iconst hx hb dX11_walk_29 ?_
    refine x_put (j := 9) hx hb hown hT hE hW cls_X11 (by decide) (fun σ => so_268 h0 g σ) (by decide) (st_X11_9 h0 s0 268 0) (ln_X11_9 h0 _ _) wq1194 rfl rfl rfl (by decide) dX11_walk_30 (fun H locs s11 es11 hW => ?_)
    have q12 : IMn s11 := by rw [es11]; exact IMn_268 p0 (by omega)
    have q13 : IMk s11 := by rw [es11]; exact IMk_268 p1 (by omega)
    have q14 : IMo s11 := by rw [es11]; exact IMo_o (by unfold suIMo; omega) p2
    have q15 : s11 268 58 = s0 268 58 := (show s11 268 58 = s0 268 58 from by rw [es11, xU_j _ _ (by decide)]).trans k268_58
    have q16 : s11 268 8 = s0 268 8 := (show s11 268 8 = s0 268 8 from by rw [es11, xU_j _ _ (by decide)]).trans k268_8
    have q17 : s11 268 9 = 0 := by rw [es11, xU_s]
    have hF18 := hF.put es11 (by omega)
    refine x_aload_n hx hb hl 0 rfl dX11_walk_33 rfl ?_
    refine x_iload_n hx hb hl 2 rfl dX11_walk_34 rfl ?_
    refine x_put (j := 10) hx hb hown hT hE hW cls_X11 (by decide) (fun σ => so_268 h0 g σ) (by decide) (st_X11_10 h0 s11 268 n) (ln_X11_10 h0 _ _) wq1195 rfl rfl rfl rn dX11_walk_35 (fun H locs s19 es19 hW => ?_)
    have q20 : IMn s19 := by rw [es19]; exact IMn_268 q12 (by omega)
    have q21 : IMk s19 := by rw [es19]; exact IMk_268 q13 (by omega)
    have q22 : IMo s19 := by rw [es19]; exact IMo_o (by unfold suIMo; omega) q14
    have q23 : s19 268 58 = s0 268 58 := (show s19 268 58 = s11 268 58 from by rw [es19, xU_j _ _ (by decide)]).trans q15
    have q24 : s19 268 8 = s0 268 8 := (show s19 268 8 = s11 268 8 from by rw [es19, xU_j _ _ (by decide)]).trans q16
    have q25 : s19 268 9 = 0 := (show s19 268 9 = s11 268 9 from by rw [es19, xU_j _ _ (by decide)]).trans q17
    have q26 : s19 268 10 = n := by rw [es19, xU_s]
    have hF27 := hF18.put es19 (by omega)
    have q28 : IR s19 := by unfold IR; omega
    refine x_aload_n hx hb hl 0 rfl dX11_walk_38 rfl ?_
    refine x_iconst hx hb dX11_walk_39 ?_
    refine x_put (j := 34) hx hb hown hT hE hW cls_X11 (by decide) (fun σ => so_268 h0 g σ) (by decide) (st_X11_34 h0 s19 268 0) (ln_X11_34 h0 _ _) wq1219 rfl rfl rfl (by decide) dX11_walk_40 (fun H locs s29 es29 hW => ?_)
    have q30 : IMn s29 := by rw [es29]; exact IMn_268 q20 (by omega)
    have q31 : IMk s29 := by rw [es29]; exact IMk_268 q21 (by omega)
    have q32 : IMo s29 := by rw [es29]; exact IMo_o (by unfold suIMo; omega) q22
    have q33 : s29 268 58 = s0 268 58 := (show s29 268 58 = s19 268 58 from by rw [es29, xU_j _ _ (by decide)]).trans q23
    have q34 : s29 268 8 = s0 268 8 := (show s29 268 8 = s19 268 8 from by rw [es29, xU_j _ _ (by decide)]).trans q24
    have q35 : s29 268 9 = 0 := (show s29 268 9 = s19 268 9 from by rw [es29, xU_j _ _ (by decide)]).trans q25
    have q36 : s29 268 10 = n := (show s29 268 10 = s19 268 10 from by rw [es29, xU_j _ _ (by decide)]).trans q26
    have q37 : IR s29 := by rw [es29]; exact IR_268 q28 (by omega)
    have q38 : s29 268 34 = 0 := by rw [es29, xU_s]
    have hF39 := hF27.put es29 (by omega)
    refine x_aload_n hx hb hl 0 rfl dX11_walk_43 rfl ?_
    refine x_iconst hx hb dX11_walk_44 ?_
    refine x_put (j := 35) hx hb hown hT hE hW cls_X11 (by decide) (fun σ => so_268 h0 g σ) (by decide) (st_X11_35 h0 s29 268 0) (ln_X11_35 h0 _ _) wq1220 rfl rfl rfl (by decide) dX11_walk_45 (fun H locs s40 es40 hW => ?_)
    have q41 : IMn s40 := by rw [es40]; exact IMn_268 q30 (by omega)
    have q42 : IMk s40 := by rw [es40]; exact IMk_268 q31 (by omega)
    have q43 : IMo s40 := by rw [es40]; exact IMo_o (by unfold suIMo; omega) q32
    have q44 : s40 268 58 = s0 268 58 := (show s40 268 58 = s29 268 58 from by rw [es40, xU_j _ _ (by decide)]).trans q33
    have q45 : s40 268 8 = s0 268 8 := (show s40 268 8 = s29 268 8 from by rw [es40, xU_j _ _ (by decide)]).trans q34
    have q46 : s40 268 9 = 0 := (show s40 268 9 = s29 268 9 from by rw [es40, xU_j _ _ (by decide)]).trans q35
    have q47 : s40 268 10 = n := (show s40 268 10 = s29 268 10 from by rw [es40, xU_j _ _ (by decide)]).trans q36
    have q48 : IR s40 := by rw [es40]; exact IR_268 q37 (by omega)
    have q49 : s40 268 34 = 0 := (show s40 268 34 = s29 268 34 from by rw [es40, xU_j _ _ (by decide)]).trans q38
    have q50 : s40 268 35 = 0 := by rw [es40, xU_s]
    have hF51 := hF39.put es40 (by omega)
    refine x_aload_n hx hb hl 0 rfl dX11_walk_48 rfl ?_
    refine x_goi (x_runV (As := []) hx hb hml hown hT hE hW hl.1 (Or.inl (by decide)) (so_268 h0 g _) rfl cf_X11_readsStep wq1446 wq112 wq1444 (c_X11_readsStep l D g T h0 s40 hW.2.1 (zRW.new (by omega) (by omega)) q41 q42 q43 q48) ⟨rfl, rfl, ⟨by decide, by decide⟩, ⟨by decide, by decide⟩⟩ rfl rfl (Nat.le_of_ble_eq_true rfl) dX11_walk_49) hW (fun x52 s53 H locs rx52 hp54 hW => ?_)
    obtain ⟨fs53, hp54⟩ := hp54
    have hF55 := hF51.call fs53 (fun k h => by omega)
    have ghp54 := hp54.2
    have A49 := ghp54
    refine lv_istore_n (lv' := [(3, .int (xJ x52)), (0, .ref (h0 + 268)), (1, .int (xJ j)), (2, .int (xJ n))]) hx hb dX11_walk_52 rfl hl (by decide) rfl (fun ls hl => ?_)
    have L53 : ∀ (fu : Nat) (i3_53 : Int) (s_53 : xS) (H : Heap) (locs : List Loc) (ls : Array Slot), (xR i3_53) → (xFr (fun k => k = 268 ∨ k = 269 ∨ k = 274 ∨ k = 275 ∨ k = 289 ∨ k = 290 ∨ k = 291 ∨ k = 292) s0 s_53) → (IMn s_53) → (IMk s_53) → (IMo s_53) → (IR s_53) → (s_53 268 8 = s0 268 8) → (s_53 268 58 = s0 268 58) → (s_53 268 10 = n) → (s_53 268 14 = s40 268 14) → (s_53 268 15 = s40 268 15) → (s_53 268 16 = s40 268 16) → (i3_53 = 0 ∨ (i3_53 = 1 ∧ zRW s_53)) → (2 * (241 - s_53 268 9) + i3_53).toNat < fu → xW D g h0 s H locs s_53 → lv_has ls 5 [(0, .ref (h0 + 268)), (1, .int (xJ j)), (3, .int (xJ i3_53))] → W p l e { frames := 3, cells := 0, slots := 0, locals := 70 } s m args below meth c H locs 0 0 Q (F0 m 53 ls []) := by
      intro fu
      induction fu with
      | zero => intro i3_53 s_53 H locs ls ri3_53 hF_53 q53_0 q53_1 q53_2 q53_3 q53_4 q53_5 q53_6 q53_7 q53_8 q53_9 v53_0 hm; exact absurd hm (Nat.not_lt_zero _)
      | succ fu ih53 =>
        intro i3_53 s_53 H locs ls ri3_53 hF_53 q53_0 q53_1 q53_2 q53_3 q53_4 q53_5 q53_6 q53_7 q53_8 q53_9 v53_0 hm hW hl
        have Y53 := q53_3
        unfold IR at Y53
        refine x_iload_n hx hb hl 2 rfl dX11_walk_53 rfl ?_
        have J83 : ∀ (ls : Array Slot), (i3_53 = 0 ∨ (i3_53 = 1 ∧ zRW s_53)) → lv_has ls 5 [(0, .ref (h0 + 268)), (1, .int (xJ j)), (3, .int (xJ i3_53))] → W p l e { frames := 3, cells := 0, slots := 0, locals := 70 } s m args below meth c H locs 0 0 Q (F0 m 83 ls []) := by
          intro ls v83_0  hl
          refine x_aload_n hx hb hl 0 rfl dX11_walk_83 rfl ?_
          refine x_iconst hx hb dX11_walk_84 ?_
          have q56 : s_53 268 34 = s_53 268 34 := rfl
          refine x_put (j := 8) hx hb hown hT hE hW cls_X11 (by decide) (fun σ => so_268 h0 g σ) (by decide) (st_X11_8 h0 s_53 268 0) (ln_X11_8 h0 _ _) wq1193 rfl rfl rfl (by decide) dX11_walk_85 (fun H locs s57 es57 hW => ?_)
          have q58 : IMn s57 := by rw [es57]; exact IMn_268 q53_0 (by omega)
          have q59 : IMk s57 := by rw [es57]; exact IMk_268 q53_1 (by omega)
          have q60 : IMo s57 := by rw [es57]; exact IMo_o (by unfold suIMo; omega) q53_2
          have q61 : IR s57 := by rw [es57]; exact IR_268 q53_3 (by omega)
          have q62 : s57 268 8 = 0 := by rw [es57, xU_s]
          have q63 : s57 268 58 = s0 268 58 := (show s57 268 58 = s_53 268 58 from by rw [es57, xU_j _ _ (by decide)]).trans q53_5
          have q64 : s57 268 10 = n := (show s57 268 10 = s_53 268 10 from by rw [es57, xU_j _ _ (by decide)]).trans q53_6
          have q65 : s57 268 14 = s40 268 14 := (show s57 268 14 = s_53 268 14 from by rw [es57, xU_j _ _ (by decide)]).trans q53_7
          have q66 : s57 268 15 = s40 268 15 := (show s57 268 15 = s_53 268 15 from by rw [es57, xU_j _ _ (by decide)]).trans q53_8
          have q67 : s57 268 16 = s40 268 16 := (show s57 268 16 = s_53 268 16 from by rw [es57, xU_j _ _ (by decide)]).trans q53_9
          have q68 : s57 268 34 = s_53 268 34 := (show s57 268 34 = s_53 268 34 from by rw [es57, xU_j _ _ (by decide)]).trans q56
          have hF69 := hF_53.put es57 (by omega)
          refine x_iload_n hx hb hl 2 rfl dX11_walk_88 rfl ?_
          refine x_if_ne (tgt := 97) hx hb ri3_53 dX11_walk_89 (by decide) (fun c70 => ?_) (fun c70 => ?_)
          · skip
            refine x_aload_n hx hb hl 0 rfl dX11_walk_97 rfl ?_
            refine x_get (j := 5) (v := .ref (h0 + 274)) hx hb hown hT hE hW cls_X11 (Or.inl (by decide)) (so_268 h0 g _) (by decide) rfl wq1190 dX11_walk_98 ?_
            have R98 := ((v83_0.resolve_left (by omega)).2).1
            refine x_iload_n hx hb hl 1 rfl dX11_walk_101 rfl ?_
            refine x_aload_n hx hb hl 0 rfl dX11_walk_102 rfl ?_
            refine x_get (j := 34) (v := .int (xJ (s57 268 34))) hx hb hown hT hE hW cls_X11 (Or.inl (by decide)) (so_268 h0 g _) (by decide) rfl wq1219 dX11_walk_103 ?_
            refine x_rd hW (fun x71 ex71 rx71 => ?_)
            have fx71 : x71 = s_53 268 34 := ex71.trans q68
            refine x_iast hx hb hE hW (by decide) (fun σ => sa_274 h0 g σ) (by omega) (by decide) rx71 dX11_walk_106 (fun H locs s72 es72 hW => ?_)
            have q73 : IMn s72 := by rw [es72]; exact IMn_274 q58 (by omega)
            have q74 : IMk s72 := by rw [es72]; exact IMk_o (by unfold suIMk; omega) q59
            have q75 : IMo s72 := by rw [es72]; exact IMo_o (by unfold suIMo; omega) q60
            have q76 : IR s72 := by rw [es72]; exact IR_o (by unfold suIR; omega) q61
            have q77 : s72 268 8 = 0 := (show s72 268 8 = s57 268 8 from by rw [es72, xU_k _ _ _ (by omega)]).trans q62
            have q78 : s72 268 58 = s0 268 58 := (show s72 268 58 = s57 268 58 from by rw [es72, xU_k _ _ _ (by omega)]).trans q63
            have q79 : s72 268 10 = n := (show s72 268 10 = s57 268 10 from by rw [es72, xU_k _ _ _ (by omega)]).trans q64
            have q80 : s72 268 14 = s40 268 14 := (show s72 268 14 = s57 268 14 from by rw [es72, xU_k _ _ _ (by omega)]).trans q65
            have q81 : s72 268 15 = s40 268 15 := (show s72 268 15 = s57 268 15 from by rw [es72, xU_k _ _ _ (by omega)]).trans q66
            have q82 : s72 268 16 = s40 268 16 := (show s72 268 16 = s57 268 16 from by rw [es72, xU_k _ _ _ (by omega)]).trans q67
            have q83 : s72 268 34 = s_53 268 34 := (show s72 268 34 = s57 268 34 from by rw [es72, xU_k _ _ _ (by omega)]).trans q68
            have hF84 := hF69.put es72 (by omega)
            refine x_aload_n hx hb hl 0 rfl dX11_walk_107 rfl ?_
            refine x_get (j := 0) (v := .ref (h0 + 269)) hx hb hown hT hE hW cls_X11 (Or.inl (by decide)) (so_268 h0 g _) (by decide) rfl wq1185 dX11_walk_108 ?_
            refine x_iconst hx hb dX11_walk_111 ?_
            refine x_iload_n hx hb hl 1 rfl dX11_walk_112 rfl ?_
            refine x_iadd hx hb dX11_walk_113 ?_
            refine x_iconst hx hb dX11_walk_114 ?_
            refine x_iast hx hb hE hW (by decide) (fun σ => sa_269 h0 g σ) (by omega) (by decide) (by decide) dX11_walk_115 (fun H locs s85 es85 hW => ?_)
            have q86 : IMn s85 := by rw [es85]; exact IMn_N269 q73 (by omega)
            have q87 : IMk s85 := by rw [es85]; exact IMk_o (by unfold suIMk; omega) q74
            have q88 : IMo s85 := by rw [es85]; exact IMo_o (by unfold suIMo; omega) q75
            have q89 : IR s85 := by rw [es85]; exact IR_o (by unfold suIR; omega) q76
            have q90 : s85 268 8 = 0 := (show s85 268 8 = s72 268 8 from by rw [es85, xU_k _ _ _ (by omega)]).trans q77
            have q91 : s85 268 58 = s0 268 58 := (show s85 268 58 = s72 268 58 from by rw [es85, xU_k _ _ _ (by omega)]).trans q78
            have q92 : s85 268 10 = n := (show s85 268 10 = s72 268 10 from by rw [es85, xU_k _ _ _ (by omega)]).trans q79
            have q93 : s85 268 14 = s40 268 14 := (show s85 268 14 = s72 268 14 from by rw [es85, xU_k _ _ _ (by omega)]).trans q80
            have q94 : s85 268 15 = s40 268 15 := (show s85 268 15 = s72 268 15 from by rw [es85, xU_k _ _ _ (by omega)]).trans q81
            have q95 : s85 268 16 = s40 268 16 := (show s85 268 16 = s72 268 16 from by rw [es85, xU_k _ _ _ (by omega)]).trans q82
            have q96 : s85 268 34 = s_53 268 34 := (show s85 268 34 = s72 268 34 from by rw [es85, xU_k _ _ _ (by omega)]).trans q83
            have hF97 := hF84.put es85 (by omega)
            refine x_iconst hx hb dX11_walk_116 ?_
            refine lv_istore (lv' := [(4, .int (xJ 0)), (0, .ref (h0 + 268)), (1, .int (xJ j)), (3, .int (xJ i3_53))]) hx hb dX11_walk_117 hl (by decide) rfl (fun ls hl => ?_)
            have L119 : ∀ (fu : Nat) (i4_119 : Int) (s_119 : xS) (H : Heap) (locs : List Loc) (ls : Array Slot), (xR i4_119) → (xFr (fun k => k = 268 ∨ k = 269 ∨ k = 274 ∨ k = 275 ∨ k = 289 ∨ k = 290 ∨ k = 291 ∨ k = 292) s0 s_119) → (IMn s_119) → (IMk s_119) → (IMo s_119) → (IR s_119) → (s_119 268 8 = 0) → (s_119 268 58 = s0 268 58) → (s_119 268 10 = n) → (s_119 268 14 = s40 268 14) → (s_119 268 15 = s40 268 15) → (s_119 268 16 = s40 268 16) → (s_119 268 34 = s_53 268 34) → (0 ≤ i4_119) → (60 - i4_119).toNat < fu → xW D g h0 s H locs s_119 → lv_has ls 5 [(0, .ref (h0 + 268)), (1, .int (xJ j)), (4, .int (xJ i4_119))] → W p l e { frames := 3, cells := 0, slots := 0, locals := 70 } s m args below meth c H locs 0 0 Q (F0 m 119 ls []) := by
              intro fu
              induction fu with
              | zero => intro i4_119 s_119 H locs ls ri4_119 hF_119 q119_0 q119_1 q119_2 q119_3 q119_4 q119_5 q119_6 q119_7 q119_8 q119_9 q119_10 v119_0 hm; exact absurd hm (Nat.not_lt_zero _)
              | succ fu ih119 =>
                intro i4_119 s_119 H locs ls ri4_119 hF_119 q119_0 q119_1 q119_2 q119_3 q119_4 q119_5 q119_6 q119_7 q119_8 q119_9 q119_10 v119_0 hm hW hl
                refine x_iload hx hb hl 2 rfl dX11_walk_119 ?_
                refine x_aload_n hx hb hl 0 rfl dX11_walk_121 rfl ?_
                refine x_get (j := 34) (v := .int (xJ (s_119 268 34))) hx hb hown hT hE hW cls_X11 (Or.inl (by decide)) (so_268 h0 g _) (by decide) rfl wq1219 dX11_walk_122 ?_
                refine x_rd hW (fun x98 ex98 rx98 => ?_)
                have fx98 : x98 = s_53 268 34 := ex98.trans q119_10
                refine x_icmp_ge (tgt := 153) hx hb ri4_119 rx98 dX11_walk_125 (by decide) (fun c99 => ?_) (fun c99 => ?_)
                · skip
                  refine x_aload_n hx hb hl 0 rfl dX11_walk_153 rfl ?_
                  refine x_get (j := 34) (v := .int (xJ (s_119 268 34))) hx hb hown hT hE hW cls_X11 (Or.inl (by decide)) (so_268 h0 g _) (by decide) rfl wq1219 dX11_walk_154 ?_
                  refine x_rd hW (fun x100 ex100 rx100 => ?_)
                  have fx100 : x100 = s_53 268 34 := ex100.trans q119_10
                  rw [eQ]
                  exact x_iret hx hb hr hlk hW rx100 ⟨hF_119, ⟨q119_0, q119_1, q119_2, q119_5, trivial⟩, by omega⟩ dX11_walk_157
                refine x_aload_n hx hb hl 0 rfl dX11_walk_128 rfl ?_
                refine x_get (j := 6) (v := .ref (h0 + 275)) hx hb hown hT hE hW cls_X11 (Or.inl (by decide)) (so_268 h0 g _) (by decide) rfl wq1191 dX11_walk_129 ?_
                refine x_bipush hx hb dX11_walk_132 (by decide) ?_
                refine x_iload_n hx hb hl 1 rfl dX11_walk_134 rfl ?_
                refine x_imul hx hb dX11_walk_135 ?_
                refine x_iload hx hb hl 2 rfl dX11_walk_136 ?_
                refine x_iadd hx hb dX11_walk_138 ?_
                refine x_aload_n hx hb hl 0 rfl dX11_walk_139 rfl ?_
                refine x_get (j := 30) (v := .ref (h0 + 289)) hx hb hown hT hE hW cls_X11 (Or.inl (by decide)) (so_268 h0 g _) (by decide) rfl wq1215 dX11_walk_140 ?_
                refine x_iload hx hb hl 2 rfl dX11_walk_143 ?_
                refine x_bald hx hb hE hW (Or.inl (by decide)) (sa_289 h0 g _) (by omega) (by decide) dX11_walk_145 ?_
                refine x_rd hW (fun x101 ex101 rx101 => ?_)
                obtain ⟨y103, ey103, ry103⟩ := xnb x101
                refine x_bast (w := y103) hx hb hE hW (by decide) (fun σ => sa_275 h0 g σ) (by omega) (by decide) ey103 ry103 dX11_walk_146 (fun H locs s102 es102 hW => ?_)
                have q104 : IMn s102 := by rw [es102]; exact IMn_o (by unfold suIMn; omega) q119_0
                have q105 : IMk s102 := by rw [es102]; exact IMk_o (by unfold suIMk; omega) q119_1
                have q106 : IMo s102 := by rw [es102]; exact IMo_o (by unfold suIMo; omega) q119_2
                have q107 : IR s102 := by rw [es102]; exact IR_o (by unfold suIR; omega) q119_3
                have q108 : s102 268 8 = 0 := (show s102 268 8 = s_119 268 8 from by rw [es102, xU_k _ _ _ (by omega)]).trans q119_4
                have q109 : s102 268 58 = s0 268 58 := (show s102 268 58 = s_119 268 58 from by rw [es102, xU_k _ _ _ (by omega)]).trans q119_5
                have q110 : s102 268 10 = n := (show s102 268 10 = s_119 268 10 from by rw [es102, xU_k _ _ _ (by omega)]).trans q119_6
                have q111 : s102 268 14 = s40 268 14 := (show s102 268 14 = s_119 268 14 from by rw [es102, xU_k _ _ _ (by omega)]).trans q119_7
                have q112 : s102 268 15 = s40 268 15 := (show s102 268 15 = s_119 268 15 from by rw [es102, xU_k _ _ _ (by omega)]).trans q119_8
                have q113 : s102 268 16 = s40 268 16 := (show s102 268 16 = s_119 268 16 from by rw [es102, xU_k _ _ _ (by omega)]).trans q119_9
                have q114 : s102 268 34 = s_53 268 34 := (show s102 268 34 = s_119 268 34 from by rw [es102, xU_k _ _ _ (by omega)]).trans q119_10
                have hF115 := hF_119.put es102 (by omega)
                refine x_iinc (lv' := [(4, .int (xJ (i4_119 + 1))), (0, .ref (h0 + 268)), (1, .int (xJ j))]) hx hb hl 2 rfl dX11_walk_147 (by decide) rfl (fun ls hl => ?_)
                refine lv_goto (tgt := 119) hx hb dX11_walk_150 (by decide) ?_
                exact ih119 (i4_119 + 1) s102 H locs ls (by omega) hF115 q104 q105 q106 q107 q108 q109 q110 q111 q112 q113 q114 (by omega) (by omega) hW (lv_sub hl [1, 2, 0] rfl)
            exact L119 ((60 - 0 : Int).toNat + 1) 0 s85 H locs ls (by decide) hF97 q86 q87 q88 q89 q90 q91 q92 q93 q94 q95 q96 (by omega) (Nat.lt_succ_self _) hW (lv_sub hl [1, 2, 0] rfl)
          refine x_aload_n hx hb hl 0 rfl dX11_walk_92 rfl ?_
          refine x_get (j := 11) (v := .int (xJ (s57 268 11))) hx hb hown hT hE hW cls_X11 (Or.inl (by decide)) (so_268 h0 g _) (by decide) rfl wq1196 dX11_walk_93 ?_
          refine x_rd hW (fun x116 ex116 rx116 => ?_)
          rw [eQ]
          exact x_iret hx hb hr hlk hW rx116 ⟨hF69, ⟨q58, q59, q60, q63, trivial⟩, by omega⟩ dX11_walk_96
        refine x_if_eq (tgt := 83) hx hb ri3_53 dX11_walk_54 (by decide) (fun c117 => ?_) (fun c117 => ?_)
        · skip
          exact J83 ls (v53_0)  (lv_sub hl [0, 1, 2] rfl)
        refine x_aload_n hx hb hl 0 rfl dX11_walk_57 rfl ?_
        refine x_get (j := 9) (v := .int (xJ (s_53 268 9))) hx hb hown hT hE hW cls_X11 (Or.inl (by decide)) (so_268 h0 g _) (by decide) rfl wq1194 dX11_walk_58 ?_
        refine x_rd hW (fun x118 ex118 rx118 => ?_)
        have bx118 : 0 ≤ x118 ∧ x118 ≤ s_53 268 10 ∧ s_53 268 10 ≤ 240 := by rw [ex118]; exact q53_3
        refine x_aload_n hx hb hl 0 rfl dX11_walk_61 rfl ?_
        refine x_get (j := 10) (v := .int (xJ (s_53 268 10))) hx hb hown hT hE hW cls_X11 (Or.inl (by decide)) (so_268 h0 g _) (by decide) rfl wq1195 dX11_walk_62 ?_
        refine x_rd hW (fun x119 ex119 rx119 => ?_)
        have fx119 : x119 = n := ex119.trans q53_6
        have J75 : ∀ (ls : Array Slot), lv_has ls 5 [(0, .ref (h0 + 268)), (1, .int (xJ j))] → W p l e { frames := 3, cells := 0, slots := 0, locals := 70 } s m args below meth c H locs 0 0 Q (F0 m 75 ls []) := by
          intro ls   hl
          refine x_aload_n hx hb hl 0 rfl dX11_walk_75 rfl ?_
          refine x_goi (x_runV (As := []) hx hb hml hown hT hE hW hl.1 (Or.inl (by decide)) (so_268 h0 g _) rfl cf_X11_readsStep wq1446 wq112 wq1444 (c_X11_readsStep l D g T h0 s_53 hW.2.1 ((v53_0.resolve_left (by omega)).2) q53_0 q53_1 q53_2 q53_3) ⟨rfl, rfl, ⟨by decide, by decide⟩, ⟨by decide, by decide⟩⟩ rfl rfl (Nat.le_of_ble_eq_true rfl) dX11_walk_76) hW (fun x120 s121 H locs rx120 hp122 hW => ?_)
          obtain ⟨fs121, hp122⟩ := hp122
          have hF123 := hF_53.call fs121 (fun k h => by omega)
          have ghp122 := hp122.2
          have A76 := ghp122
          refine lv_istore_n (lv' := [(3, .int (xJ x120)), (0, .ref (h0 + 268)), (1, .int (xJ j))]) hx hb dX11_walk_79 rfl hl (by decide) rfl (fun ls hl => ?_)
          refine lv_goto (tgt := 53) hx hb dX11_walk_80 (by decide) ?_
          exact ih53 x120 s121 H locs ls rx120 hF123 hp122.1.1 hp122.1.2.1 hp122.1.2.2.1 hp122.1.2.2.2.1 (hp122.1.2.2.2.2.1.trans q53_4) (hp122.1.2.2.2.2.2.1.trans q53_5) (hp122.1.2.2.2.2.2.2.1.trans q53_6) (hp122.1.2.2.2.2.2.2.2.1.trans q53_7) (hp122.1.2.2.2.2.2.2.2.2.1.trans q53_8) (hp122.1.2.2.2.2.2.2.2.2.2.1.trans q53_9) (A76.elim (fun q => Or.inl (by omega)) (fun q => Or.inr ⟨by omega, q.2.1⟩)) (by omega) hW (lv_sub hl [1, 2, 0] rfl)
        refine x_icmp_lt (tgt := 75) hx hb rx118 rx119 dX11_walk_65 (by decide) (fun c124 => ?_) (fun c124 => ?_)
        · skip
          exact J75 ls   (lv_sub hl [0, 1] rfl)
        refine x_aload_n hx hb hl 0 rfl dX11_walk_68 rfl ?_
        refine x_get (j := 35) (v := .int (xJ (s_53 268 35))) hx hb hown hT hE hW cls_X11 (Or.inl (by decide)) (so_268 h0 g _) (by decide) rfl wq1220 dX11_walk_69 ?_
        refine x_rd hW (fun x125 ex125 rx125 => ?_)
        refine x_if_le (tgt := 83) hx hb rx125 dX11_walk_72 (by decide) (fun c126 => ?_) (fun c126 => ?_)
        · skip
          exact J83 ls (v53_0)  (lv_sub hl [0, 1, 2] rfl)
        exact J75 ls   (lv_sub hl [0, 1] rfl)
    exact L53 ((2 * (241 - s53 268 9) + x52 : Int).toNat + 1) x52 s53 H locs ls rx52 hF55 hp54.1.1 hp54.1.2.1 hp54.1.2.2.1 hp54.1.2.2.2.1 (hp54.1.2.2.2.2.1.trans q45) (hp54.1.2.2.2.2.2.1.trans q44) (hp54.1.2.2.2.2.2.2.1.trans q47) hp54.1.2.2.2.2.2.2.2.1 hp54.1.2.2.2.2.2.2.2.2.1 hp54.1.2.2.2.2.2.2.2.2.2.1 (A49.elim (fun q => Or.inl (by omega)) (fun q => Or.inr ⟨by omega, q.2.1⟩)) (Nat.lt_succ_self _) hW (lv_sub hl [1, 2, 0] rfl)
  refine x_iconst hx hb dX11_walk_26 ?_
  rw [eQ]
  exact x_iret hx hb hr hlk hW (by decide) ⟨hF, ⟨p0, p1, p2, k268_58, trivial⟩, by omega⟩ dX11_walk_27
