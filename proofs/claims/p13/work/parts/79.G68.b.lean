set_option maxHeartbeats 4000000 in
set_option maxRecDepth 100000 in
theorem c_X11_repeatsJ (l : Launch) (D : va_G) (g : xG) (T : Nat × Nat × Nat) (h0 : Nat) (s0 : xS) (hσ : xRR s0) (a : Int) (ra : xR a) (b : Int) (rb : xR b) (q : Int) (rq : xR q) (ha0 : 0 ≤ a ∧ a ≤ s0 268 34 ∧ s0 268 34 ≤ 60) (hb0 : 1 ≤ b ∧ b ≤ 9) (hq0 : 0 ≤ q ∧ q ≤ 300) (hb8 : ∀ q : Int, 0 ≤ q → q < s0 268 34 → 0 ≤ s0 289 q ∧ s0 289 q ≤ 8) (p0 : IMn s0) (p1 : IMk s0) (p2 : IMo s0) (p3 : IR s0) : Met l yX11_repeats (xws yX11_repeats cX11_repeats 6 (some .boolean)) { frames := 1, cells := 0, slots := 0, locals := 22 } (xP [.ref (h0 + 268), .int (xJ a), .int (xJ b), .int (xJ q)] D g T h0 s0) (xQi D g h0 (fun r τ => xFr (fun k => k = 268 ∨ k = 289) s0 τ ∧ (((IMn τ) ∧ (IMk τ) ∧ (IMo τ) ∧ (IR τ) ∧ (τ 268 8 = s0 268 8) ∧ (τ 268 58 = s0 268 58) ∧ (τ 268 10 = s0 268 10) ∧ (τ 268 9 = s0 268 9) ∧ (τ 268 35 = s0 268 35) ∧ (τ 268 36 = s0 268 36) ∧ (τ 268 37 = s0 268 37) ∧ (τ 268 17 = s0 268 17) ∧ (τ 268 48 = s0 268 48) ∧ True) ∧ ((r = 1 ∧ s0 268 34 + (b - 1) * (s0 268 34 - a) ≤ 60 ∧ τ 268 34 = s0 268 34 + (b - 1) * (s0 268 34 - a) ∧ τ 289 = wrep (s0 289) a (s0 268 34) ((b - 1) * (s0 268 34 - a))) ∨ (r = 0 ∧ 60 < s0 268 34 + (b - 1) * (s0 268 34 - a) ∧ τ 268 34 = s0 268 34 ∧ τ 268 11 = -6000 - q))))) 0 0 (xA h0) := by
  refine x_met hσ (by decide) (Nat.le_of_ble_eq_true rfl) ?_
  intro p e s m args below meth c hx hb hr hml hown hT hlk hnm hE hW ls hl
  have hl : lv_has ls 6 [(0, .ref (h0 + 268)), (1, .int (xJ a)), (2, .int (xJ b)), (3, .int (xJ q))] := hl
  obtain ⟨Q, eQ⟩ : ∃ Q, Q = MQ below (xQi D g h0 (fun r τ => xFr (fun k => k = 268 ∨ k = 289) s0 τ ∧ (((IMn τ) ∧ (IMk τ) ∧ (IMo τ) ∧ (IR τ) ∧ (τ 268 8 = s0 268 8) ∧ (τ 268 58 = s0 268 58) ∧ (τ 268 10 = s0 268 10) ∧ (τ 268 9 = s0 268 9) ∧ (τ 268 35 = s0 268 35) ∧ (τ 268 36 = s0 268 36) ∧ (τ 268 37 = s0 268 37) ∧ (τ 268 17 = s0 268 17) ∧ (τ 268 48 = s0 268 48) ∧ True) ∧ ((r = 1 ∧ s0 268 34 + (b - 1) * (s0 268 34 - a) ≤ 60 ∧ τ 268 34 = s0 268 34 + (b - 1) * (s0 268 34 - a) ∧ τ 289 = wrep (s0 289) a (s0 268 34) ((b - 1) * (s0 268 34 - a))) ∨ (r = 0 ∧ 60 < s0 268 34 + (b - 1) * (s0 268 34 - a) ∧ τ 268 34 = s0 268 34 ∧ τ 268 11 = -6000 - q))))) args s 0 0 (xA h0) := ⟨_, rfl⟩
  rw [← eQ]
  generalize hHe : ([] : List Loc) = locs at hW ⊢
  obtain ⟨H, eH⟩ : ∃ H, H = s.heap := ⟨_, rfl⟩
  rw [← eH] at hW ⊢
  have hF : xFr (fun k => k = 268 ∨ k = 289) s0 s0 := xFr.rf
  have k268_8 : s0 268 8 = s0 268 8 := rfl
  have k268_58 : s0 268 58 = s0 268 58 := rfl
  have k268_10 : s0 268 10 = s0 268 10 := rfl
  have k268_9 : s0 268 9 = s0 268 9 := rfl
  have k268_35 : s0 268 35 = s0 268 35 := rfl
  have k268_36 : s0 268 36 = s0 268 36 := rfl
  have k268_37 : s0 268 37 = s0 268 37 := rfl
  have k268_17 : s0 268 17 = s0 268 17 := rfl
  have k268_48 : s0 268 48 = s0 268 48 := rfl
  have k268_34 : s0 268 34 = s0 268 34 := rfl
  refine x_aload_n hx hb hl 0 rfl dX11_repeats_0 rfl ?_
  refine x_get (j := 34) (v := .int (xJ (s0 268 34))) hx hb hown hT hE hW cls_X11 (Or.inl (by decide)) (so_268 h0 g _) (by decide) rfl wq1219 dX11_repeats_1 ?_
  refine x_rd hW (fun x1 ex1 rx1 => ?_)
  have fx1 : x1 = s0 268 34 := ex1.trans k268_34
  refine x_iload_n hx hb hl 1 rfl dX11_repeats_4 rfl ?_
  refine x_isub hx hb dX11_repeats_5 ?_
  refine x_nm (fun x2 ex2 => ?_)
  refine lv_istore (lv' := [(4, .int (xJ x2)), (0, .ref (h0 + 268)), (1, .int (xJ a)), (2, .int (xJ b)), (3, .int (xJ q))]) hx hb dX11_repeats_6 hl (by decide) rfl (fun ls hl => ?_)
  have X6 : x2 = s0 268 34 - a := by omega
  have Y6 : x2 * b = (b - 1) * (s0 268 34 - a) + (s0 268 34 - a) := by rw [X6]; exact wmul2 _ _ _
  have m6 := xmulb (by omega : -1 ≤ b ∧ b ≤ 9) (by omega : -60 ≤ x2 ∧ x2 ≤ 60)
  rw [Int.mul_comm] at m6
  have n6 : 0 ≤ (b - 1) * (s0 268 34 - a) := Int.mul_nonneg (by omega) (by omega)
  refine x_iload_n hx hb hl 2 rfl dX11_repeats_8 rfl ?_
  refine x_iload hx hb hl 0 rfl dX11_repeats_9 ?_
  refine x_iload_n hx hb hl 3 rfl dX11_repeats_11 rfl ?_
  refine x_imul hx hb dX11_repeats_12 ?_
  refine x_iadd hx hb dX11_repeats_13 ?_
  refine x_bipush hx hb dX11_repeats_14 (by decide) ?_
  refine x_icmp_le (tgt := 27) hx hb (by omega) (by decide) dX11_repeats_16 (by decide) (fun c3 => ?_) (fun c3 => ?_)
  · skip
    refine x_iload hx hb hl 0 rfl dX11_repeats_27 ?_
    refine lv_istore (lv' := [(5, .int (xJ x2)), (4, .int (xJ x2)), (0, .ref (h0 + 268)), (1, .int (xJ a)), (2, .int (xJ b)), (3, .int (xJ q))]) hx hb dX11_repeats_29 hl (by decide) rfl (fun ls hl => ?_)
    have L31 : ∀ (fu : Nat) (i5_31 : Int) (s_31 : xS) (H : Heap) (locs : List Loc) (ls : Array Slot), (xR i5_31) → (xFr (fun k => k = 268 ∨ k = 289) s0 s_31) → (IMn s_31) → (IMk s_31) → (IMo s_31) → (IR s_31) → (s_31 268 8 = s0 268 8) → (s_31 268 58 = s0 268 58) → (s_31 268 10 = s0 268 10) → (s_31 268 9 = s0 268 9) → (s_31 268 35 = s0 268 35) → (s_31 268 36 = s0 268 36) → (s_31 268 37 = s0 268 37) → (s_31 268 17 = s0 268 17) → (s_31 268 48 = s0 268 48) → (s_31 268 34 = s0 268 34) → (x2 ≤ i5_31) → (s_31 289 = wrep (s0 289) a (s0 268 34) (i5_31 - x2)) → (i5_31 ≤ x2 * b) → (x2 * b - i5_31).toNat < fu → xW D g h0 s H locs s_31 → lv_has ls 6 [(0, .ref (h0 + 268)), (1, .int (xJ a)), (2, .int (xJ b)), (4, .int (xJ x2)), (5, .int (xJ i5_31))] → W p l e { frames := 1, cells := 0, slots := 0, locals := 22 } s m args below meth c H locs 0 0 Q (F0 m 31 ls []) := by
      intro fu
      induction fu with
      | zero => intro i5_31 s_31 H locs ls ri5_31 hF_31 q31_0 q31_1 q31_2 q31_3 q31_4 q31_5 q31_6 q31_7 q31_8 q31_9 q31_10 q31_11 q31_12 q31_13 v31_0 v31_1 v31_2 hm; exact absurd hm (Nat.not_lt_zero _)
      | succ fu ih31 =>
        intro i5_31 s_31 H locs ls ri5_31 hF_31 q31_0 q31_1 q31_2 q31_3 q31_4 q31_5 q31_6 q31_7 q31_8 q31_9 q31_10 q31_11 q31_12 q31_13 v31_0 v31_1 v31_2 hm hW hl
        have hm_31 := fun (_ : Unit) => hm
        clear hm
        refine x_iload hx hb hl 4 rfl dX11_repeats_31 ?_
        refine x_iload hx hb hl 3 rfl dX11_repeats_33 ?_
        refine x_iload_n hx hb hl 2 rfl dX11_repeats_35 rfl ?_
        refine x_imul hx hb dX11_repeats_36 ?_
        refine x_icmp_ge (tgt := 67) hx hb ri5_31 (by omega) dX11_repeats_37 (by decide) (fun c4 => ?_) (fun c4 => ?_)
        · skip
          refine x_aload_n hx hb hl 0 rfl dX11_repeats_67 rfl ?_
          refine x_iload_n hx hb hl 1 rfl dX11_repeats_68 rfl ?_
          refine x_iload hx hb hl 3 rfl dX11_repeats_69 ?_
          refine x_iload_n hx hb hl 2 rfl dX11_repeats_71 rfl ?_
          refine x_imul hx hb dX11_repeats_72 ?_
          refine x_iadd hx hb dX11_repeats_73 ?_
          refine x_put (j := 34) hx hb hown hT hE hW cls_X11 (by decide) (fun σ => so_268 h0 g σ) (by decide) (st_X11_34 h0 s_31 268 (a + (x2 * b))) (ln_X11_34 h0 _ _) wq1219 rfl rfl rfl (by omega) dX11_repeats_74 (fun H locs s5 es5 hW => ?_)
          have q6 : IMn s5 := by rw [es5]; exact IMn_268 q31_0 (by omega)
          have q7 : IMk s5 := by rw [es5]; exact IMk_268 q31_1 (by omega)
          have q8 : IMo s5 := by rw [es5]; exact IMo_o (by unfold suIMo; first | decide | omega) q31_2
          have q9 : IR s5 := by rw [es5]; exact IR_268 q31_3 (by omega)
          have q10 : s5 268 8 = s0 268 8 := (show s5 268 8 = s_31 268 8 from by rw [es5, xU_j _ _ (by decide)]).trans q31_4
          have q11 : s5 268 58 = s0 268 58 := (show s5 268 58 = s_31 268 58 from by rw [es5, xU_j _ _ (by decide)]).trans q31_5
          have q12 : s5 268 10 = s0 268 10 := (show s5 268 10 = s_31 268 10 from by rw [es5, xU_j _ _ (by decide)]).trans q31_6
          have q13 : s5 268 9 = s0 268 9 := (show s5 268 9 = s_31 268 9 from by rw [es5, xU_j _ _ (by decide)]).trans q31_7
          have q14 : s5 268 35 = s0 268 35 := (show s5 268 35 = s_31 268 35 from by rw [es5, xU_j _ _ (by decide)]).trans q31_8
          have q15 : s5 268 36 = s0 268 36 := (show s5 268 36 = s_31 268 36 from by rw [es5, xU_j _ _ (by decide)]).trans q31_9
          have q16 : s5 268 37 = s0 268 37 := (show s5 268 37 = s_31 268 37 from by rw [es5, xU_j _ _ (by decide)]).trans q31_10
          have q17 : s5 268 17 = s0 268 17 := (show s5 268 17 = s_31 268 17 from by rw [es5, xU_j _ _ (by decide)]).trans q31_11
          have q18 : s5 268 48 = s0 268 48 := (show s5 268 48 = s_31 268 48 from by rw [es5, xU_j _ _ (by decide)]).trans q31_12
          have q19 : s5 268 34 = (a + (x2 * b)) := by rw [es5, xU_s]
          have hF20 := hF_31.put es5 (by omega)
          have E74 := es5
          refine x_iconst hx hb dX11_repeats_77 ?_
          rw [eQ]
          exact x_zret hx hb hr hlk hW (by omega) ⟨hF20, ⟨q6, q7, q8, q9, q10, q11, q12, q13, q14, q15, q16, q17, q18, trivial⟩, Or.inl ⟨by omega, by omega, by omega, by rw [E74, xU_k _ _ _ (by first | decide | omega)]; exact v31_1.trans (wrep_c (by omega))⟩⟩ dX11_repeats_78
        refine x_aload_n hx hb hl 0 rfl dX11_repeats_40 rfl ?_
        refine x_get (j := 30) (v := .ref (h0 + 289)) hx hb hown hT hE hW cls_X11 (Or.inl (by decide)) (so_268 h0 g _) (by decide) rfl wq1215 dX11_repeats_41 ?_
        refine x_iload_n hx hb hl 1 rfl dX11_repeats_44 rfl ?_
        refine x_iload hx hb hl 4 rfl dX11_repeats_45 ?_
        refine x_iadd hx hb dX11_repeats_47 ?_
        have p47 : 0 < x2 := by
          rcases Int.lt_or_le 0 x2 with h | h
          · exact h
          · have e : x2 = 0 := by omega
            have e0 : x2 * b = 0 := by rw [e, Int.zero_mul]
            omega
        refine x_aload_n hx hb hl 0 rfl dX11_repeats_48 rfl ?_
        refine x_get (j := 30) (v := .ref (h0 + 289)) hx hb hown hT hE hW cls_X11 (Or.inl (by decide)) (so_268 h0 g _) (by decide) rfl wq1215 dX11_repeats_49 ?_
        refine x_iload_n hx hb hl 1 rfl dX11_repeats_52 rfl ?_
        refine x_iload hx hb hl 4 rfl dX11_repeats_53 ?_
        refine x_iadd hx hb dX11_repeats_55 ?_
        refine x_iload hx hb hl 3 rfl dX11_repeats_56 ?_
        refine x_isub hx hb dX11_repeats_58 ?_
        refine x_bald hx hb hE hW (Or.inl (by decide)) (sa_289 h0 g _) (by omega) (by decide) dX11_repeats_59 ?_
        refine x_rd hW (fun x21 ex21 rx21 => ?_)
        have V59 : x21 = s_31 289 (a + (i5_31 - x2)) := ex21.trans (congrArg (s_31 289) (by omega))
        have R59 : 0 ≤ x21 ∧ x21 ≤ 8 := by
          rw [V59, v31_1, wrep_at (by omega) (by omega)]
          have q := Int.emod_nonneg (i5_31 - x2) (show s0 268 34 - a ≠ 0 from by omega)
          have q2 := Int.emod_lt_of_pos (i5_31 - x2) (show 0 < s0 268 34 - a from by omega)
          exact hb8 _ (by omega) (by omega)
        obtain ⟨y23, ey23, ry23, my23, by23⟩ := xnbm (v := x21) rx21
        refine x_bast (w := y23) hx hb hE hW (by decide) (fun σ => sa_289 h0 g σ) (by omega) (by decide) ey23 ry23 dX11_repeats_60 (fun H locs s22 es22 hW => ?_)
        have q24 : IMn s22 := by rw [es22]; exact IMn_o (by unfold suIMn; first | decide | omega) q31_0
        have q25 : IMk s22 := by rw [es22]; exact IMk_o (by unfold suIMk; first | decide | omega) q31_1
        have q26 : IMo s22 := by rw [es22]; exact IMo_o (by unfold suIMo; first | decide | omega) q31_2
        have q27 : IR s22 := by rw [es22]; exact IR_o (by unfold suIR; first | decide | omega) q31_3
        have q28 : s22 268 8 = s0 268 8 := (show s22 268 8 = s_31 268 8 from by rw [es22, xU_k _ _ _ (by first | decide | omega)]).trans q31_4
        have q29 : s22 268 58 = s0 268 58 := (show s22 268 58 = s_31 268 58 from by rw [es22, xU_k _ _ _ (by first | decide | omega)]).trans q31_5
        have q30 : s22 268 10 = s0 268 10 := (show s22 268 10 = s_31 268 10 from by rw [es22, xU_k _ _ _ (by first | decide | omega)]).trans q31_6
        have q31 : s22 268 9 = s0 268 9 := (show s22 268 9 = s_31 268 9 from by rw [es22, xU_k _ _ _ (by first | decide | omega)]).trans q31_7
        have q32 : s22 268 35 = s0 268 35 := (show s22 268 35 = s_31 268 35 from by rw [es22, xU_k _ _ _ (by first | decide | omega)]).trans q31_8
        have q33 : s22 268 36 = s0 268 36 := (show s22 268 36 = s_31 268 36 from by rw [es22, xU_k _ _ _ (by first | decide | omega)]).trans q31_9
        have q34 : s22 268 37 = s0 268 37 := (show s22 268 37 = s_31 268 37 from by rw [es22, xU_k _ _ _ (by first | decide | omega)]).trans q31_10
        have q35 : s22 268 17 = s0 268 17 := (show s22 268 17 = s_31 268 17 from by rw [es22, xU_k _ _ _ (by first | decide | omega)]).trans q31_11
        have q36 : s22 268 48 = s0 268 48 := (show s22 268 48 = s_31 268 48 from by rw [es22, xU_k _ _ _ (by first | decide | omega)]).trans q31_12
        have q37 : s22 268 34 = s0 268 34 := (show s22 268 34 = s_31 268 34 from by rw [es22, xU_k _ _ _ (by first | decide | omega)]).trans q31_13
        have hF38 := hF_31.put es22 (by omega)
        have A60 : s22 289 = wrep (s0 289) a (s0 268 34) (i5_31 - x2 + 1) := by
          rw [es22, xU_xud]
          exact wrep_s v31_1 (by omega) (by omega) (by omega) (by omega) rfl
        refine x_iinc (lv' := [(5, .int (xJ (i5_31 + 1))), (0, .ref (h0 + 268)), (1, .int (xJ a)), (2, .int (xJ b)), (4, .int (xJ x2))]) hx hb hl 4 rfl dX11_repeats_61 (by decide) rfl (fun ls hl => ?_)
        refine lv_goto (tgt := 31) hx hb dX11_repeats_64 (by decide) ?_
        exact ih31 (i5_31 + 1) s22 H locs ls (by omega) hF38 q24 q25 q26 q27 q28 q29 q30 q31 q32 q33 q34 q35 q36 q37 (by omega) (A60.trans (wrep_c (by omega))) (by omega) (by have hm := hm_31 (); omega) hW (lv_sub hl [1, 2, 3, 4, 0] rfl)
    exact L31 ((x2 * b - x2 : Int).toNat + 1) x2 s0 H locs ls (by omega) hF p0 p1 p2 p3 k268_8 k268_58 k268_10 k268_9 k268_35 k268_36 k268_37 k268_17 k268_48 k268_34 (by omega) ((wrep_0 _ _ _ (by omega)).symm) (by omega) (Nat.lt_succ_self _) hW (lv_sub hl [2, 3, 4, 1, 0] rfl)
  refine x_aload_n hx hb hl 1 rfl dX11_repeats_19 rfl ?_
  refine x_bipush hx hb dX11_repeats_20 (by decide) ?_
  refine x_iload_n hx hb hl 4 rfl dX11_repeats_22 rfl ?_
  refine x_goi (x_runV (As := [.int (xJ 6), .int (xJ q)]) hx hb hml hown hT hE hW hl.1 (Or.inl (by decide)) (so_268 h0 g _) rfl cf_X11_wrongAt wq1401 wq107 wq1399 (c_X11_wrongAtW l D g T h0 s0 hW.2.1 6 (by decide) q rq (by omega) p0 p1 p2 p3) ⟨rfl, rfl, ⟨by decide, by decide⟩, ⟨by decide, by decide⟩⟩ rfl rfl (Nat.le_of_ble_eq_true rfl) dX11_repeats_23) hW (fun x39 s40 H locs rx39 hp41 hW => ?_)
  obtain ⟨fs40, hp41⟩ := hp41
  have hF42 := hF.call fs40 (fun k h => by omega)
  have ghp41 := hp41.2
  rw [eQ]
  exact x_zret hx hb hr hlk hW (by omega) ⟨hF42, ⟨hp41.1.1, hp41.1.2.1, hp41.1.2.2.1, hp41.1.2.2.2.1, (hp41.1.2.2.2.2.1.trans k268_8), (hp41.1.2.2.2.2.2.1.trans k268_58), (hp41.1.2.2.2.2.2.2.1.trans k268_10), (hp41.1.2.2.2.2.2.2.2.1.trans k268_9), (hp41.1.2.2.2.2.2.2.2.2.2.1.trans k268_35), (hp41.1.2.2.2.2.2.2.2.2.2.2.1.trans k268_36), (hp41.1.2.2.2.2.2.2.2.2.2.2.2.1.trans k268_37), (hp41.1.2.2.2.2.2.2.2.2.2.2.2.2.1.trans k268_17), (hp41.1.2.2.2.2.2.2.2.2.2.2.2.2.2.1.trans k268_48), trivial⟩, Or.inr ⟨by omega, by omega, by omega, by omega⟩⟩ dX11_repeats_26
set_option maxHeartbeats 4000000 in
set_option maxRecDepth 100000 in
theorem c_X11_readsStepJ (l : Launch) (D : va_G) (g : xG) (T : Nat × Nat × Nat) (h0 : Nat) (s0 : xS) (hσ : xRR s0) (Z : Int × Int × (Int → Int)) (hrw : zRW s0) (hr0 : zR0 s0) (hz : zWY (xm8 (s0 276)) (s0 268 10) Z true (s0 268 9) (s0 268 34) (s0 289) (zst s0)) (p0 : IMn s0) (p1 : IMk s0) (p2 : IMo s0) (p3 : IR s0) : Met l yX11_readsStep (xws yX11_readsStep cX11_readsStep 4 (some .boolean)) { frames := 2, cells := 0, slots := 0, locals := 47 } (xP [.ref (h0 + 268)] D g T h0 s0) (xQi D g h0 (fun r τ => xFr (fun k => k = 268 ∨ k = 289 ∨ k = 290 ∨ k = 291 ∨ k = 292) s0 τ ∧ (((IMn τ) ∧ (IMk τ) ∧ (IMo τ) ∧ (IR τ) ∧ (τ 268 8 = s0 268 8) ∧ (τ 268 58 = s0 268 58) ∧ (τ 268 10 = s0 268 10) ∧ (τ 268 17 = s0 268 17) ∧ (τ 268 48 = s0 268 48) ∧ True) ∧ ((r = 0 ∧ s0 268 9 ≤ τ 268 9 ∧ Z.1 ≠ 0 ∧ τ 268 11 = Z.1) ∨ (r = 1 ∧ zRW τ ∧ zR0 τ ∧ s0 268 9 + 1 ≤ τ 268 9 ∧ zWY (xm8 (s0 276)) (s0 268 10) Z false (τ 268 9) (τ 268 34) (τ 289) (zst τ) ∧ (zch (xm8 (s0 276)) (s0 268 10) (τ 268 9) ≠ 41 ∨ τ 268 35 = 0)))))) 0 0 (xA h0) := by
  refine x_met hσ (by decide) (Nat.le_of_ble_eq_true rfl) ?_
  intro p e s m args below meth c hx hb hr hml hown hT hlk hnm hE hW ls hl
  have hl : lv_has ls 4 [(0, .ref (h0 + 268))] := hl
  obtain ⟨Q, eQ⟩ : ∃ Q, Q = MQ below (xQi D g h0 (fun r τ => xFr (fun k => k = 268 ∨ k = 289 ∨ k = 290 ∨ k = 291 ∨ k = 292) s0 τ ∧ (((IMn τ) ∧ (IMk τ) ∧ (IMo τ) ∧ (IR τ) ∧ (τ 268 8 = s0 268 8) ∧ (τ 268 58 = s0 268 58) ∧ (τ 268 10 = s0 268 10) ∧ (τ 268 17 = s0 268 17) ∧ (τ 268 48 = s0 268 48) ∧ True) ∧ ((r = 0 ∧ s0 268 9 ≤ τ 268 9 ∧ Z.1 ≠ 0 ∧ τ 268 11 = Z.1) ∨ (r = 1 ∧ zRW τ ∧ zR0 τ ∧ s0 268 9 + 1 ≤ τ 268 9 ∧ zWY (xm8 (s0 276)) (s0 268 10) Z false (τ 268 9) (τ 268 34) (τ 289) (zst τ) ∧ (zch (xm8 (s0 276)) (s0 268 10) (τ 268 9) ≠ 41 ∨ τ 268 35 = 0)))))) args s 0 0 (xA h0) := ⟨_, rfl⟩
  rw [← eQ]
  generalize hHe : ([] : List Loc) = locs at hW ⊢
  obtain ⟨H, eH⟩ : ∃ H, H = s.heap := ⟨_, rfl⟩
  rw [← eH] at hW ⊢
  have hF : xFr (fun k => k = 268 ∨ k = 289 ∨ k = 290 ∨ k = 291 ∨ k = 292) s0 s0 := xFr.rf
  have k268_8 : s0 268 8 = s0 268 8 := rfl
  have k268_58 : s0 268 58 = s0 268 58 := rfl
  have k268_10 : s0 268 10 = s0 268 10 := rfl
  have k268_17 : s0 268 17 = s0 268 17 := rfl
  have k268_48 : s0 268 48 = s0 268 48 := rfl
  have k268_9 : s0 268 9 = s0 268 9 := rfl
  have k268_34 : s0 268 34 = s0 268 34 := rfl
  have k268_35 : s0 268 35 = s0 268 35 := rfl
  have rw5 := hrw.2.1
  have rw4 := hrw.1
  have hr00 : 0 ≤ s0 268 9 ∧ s0 268 9 ≤ s0 268 10 ∧ s0 268 10 ≤ 240 := p3
  refine x_aload_n hx hb hl 0 rfl dX11_readsStep_0 rfl ?_
  refine x_gov (x_runV (As := []) hx hb hml hown hT hE hW hl.1 (Or.inl (by decide)) (so_268 h0 g _) rfl cf_X11_readsTimes wq1450 wq113 wq1448 (c_X11_readsTimesW l D g T h0 s0 hW.2.1 p0 p1 p2 p3) ⟨rfl, rfl, ⟨by decide, by decide⟩, ⟨by decide, by decide⟩⟩ rfl rfl (Nat.le_of_ble_eq_true rfl) dX11_readsStep_1) hW (fun s2 H locs hp3 hW => ?_)
  obtain ⟨fs2, hp3⟩ := hp3
  have hF4 := hF.call fs2 (fun k h => by omega)
  have ghp3 := hp3.2
  have A1 : (zRW s2 ∧ zR0 s2) ∧ zWY (xm8 (s0 276)) (s0 268 10) Z true (s2 268 36) (s2 268 34) (s2 289) (zst s2) ∧ (s2 268 37 = wtm (zch (xm8 (s0 276)) (s0 268 10) (s2 268 36)) ∧ s2 268 9 = wp1 (xm8 (s0 276)) (s0 268 10) (s2 268 36)) := by
    obtain ⟨h1, h2, h3⟩ := ghp3
    refine ⟨⟨hrw.f ⟨by omega, by omega⟩ ⟨by omega, by omega⟩ (fs2 291 (by first | decide | omega)) (fs2 292 (by first | decide | omega)), hr0.f (by omega) (fs2 290 (by first | decide | omega))⟩, ?_, ?_⟩
    · rw [zst_f (hp3.1.2.2.2.2.2.2.2.2.1.trans k268_35) (fs2 290 (by first | decide | omega)) (fs2 291 (by first | decide | omega)) (fs2 292 (by first | decide | omega)), h1, (hp3.1.2.2.2.2.2.2.2.1.trans k268_34), fs2 289 (by first | decide | omega)]; exact hz
    · rw [h1]; exact ⟨h2, h3⟩
  have H1 := ghp3
  have L4 : ∀ (fu : Nat) (s_4 : xS) (H : Heap) (locs : List Loc) (ls : Array Slot), (xFr (fun k => k = 268 ∨ k = 289 ∨ k = 290 ∨ k = 291 ∨ k = 292) s0 s_4) → (IMn s_4) → (IMk s_4) → (IMo s_4) → (IR s_4) → (s_4 268 8 = s0 268 8) → (s_4 268 58 = s0 268 58) → (s_4 268 10 = s0 268 10) → (s_4 268 34 = s0 268 34) → (s_4 268 17 = s0 268 17) → (s_4 268 48 = s0 268 48) → (zRW s_4 ∧ zR0 s_4) → (zWY (xm8 (s0 276)) (s0 268 10) Z true (s_4 268 36) (s_4 268 34) (s_4 289) (zst s_4)) → (s_4 268 37 = wtm (zch (xm8 (s0 276)) (s0 268 10) (s_4 268 36)) ∧ s_4 268 9 = wp1 (xm8 (s0 276)) (s0 268 10) (s_4 268 36)) → (s0 268 9 ≤ s_4 268 36) → (241 - s_4 268 9).toNat < fu → xW D g h0 s H locs s_4 → lv_has ls 4 [(0, .ref (h0 + 268))] → W p l e { frames := 2, cells := 0, slots := 0, locals := 47 } s m args below meth c H locs 0 0 Q (F0 m 4 ls []) := by
    intro fu
    induction fu with
    | zero => intro s_4 H locs ls hF_4 q4_0 q4_1 q4_2 q4_3 q4_4 q4_5 q4_6 q4_7 q4_9 q4_10 v4_0 v4_1 v4_2 v4_3 hm; exact absurd hm (Nat.not_lt_zero _)
    | succ fu ih4 =>
      intro s_4 H locs ls hF_4 q4_0 q4_1 q4_2 q4_3 q4_4 q4_5 q4_6 q4_7 q4_9 q4_10 v4_0 v4_1 v4_2 v4_3 hm hW hl
      have hm_4 := fun (_ : Unit) => hm
      clear hm
      have r4 : 0 ≤ s_4 268 9 ∧ s_4 268 9 ≤ s_4 268 10 ∧ s_4 268 10 ≤ 240 := q4_3
      have w4 := v4_0.1.1
      have w5 := v4_0.1.2.1
      have L4 := zst_l (σ := s_4) w5
      have P4 := wp1_cs (xm8 (s0 276)) (s0 268 10) (s_4 268 36)
      have T4 := wtm_cs (zch (xm8 (s0 276)) (s0 268 10) (s_4 268 36))
      refine x_aload_n hx hb hl 0 rfl dX11_readsStep_4 rfl ?_
      refine x_goi (x_runV (As := []) hx hb hml hown hT hE hW hl.1 (Or.inl (by decide)) (so_268 h0 g _) rfl cf_X11_here wq1391 wq106 wq1389 (c_X11_here l D g T h0 s_4 hW.2.1 q4_0 q4_1 q4_2 q4_3) ⟨rfl, rfl, ⟨by decide, by decide⟩, ⟨by decide, by decide⟩⟩ rfl rfl (Nat.le_of_ble_eq_true rfl) dX11_readsStep_5) hW (fun x5 s6 H locs rx5 hp7 hW => ?_)
      obtain ⟨es6, hp7⟩ := hp7
      subst es6
      have ghp7 := hp7
      obtain ⟨c5, ec5⟩ : ∃ c : Int, c = x5 := ⟨_, rfl⟩
      have C5 : c5 = zch (xm8 (s0 276)) (s0 268 10) (s_4 268 9) := by rw [ec5, ← hF_4 276 (by first | decide | omega), ← q4_6]; exact ghp7.1
      have B5 := ghp7.2
      refine x_bipush hx hb dX11_readsStep_8 (by decide) ?_
      refine x_icmp_ne (tgt := 97) hx hb rx5 (by decide) dX11_readsStep_10 (by decide) (fun c8 => ?_) (fun c8 => ?_)
      · skip
        refine x_aload_n hx hb hl 0 rfl dX11_readsStep_97 rfl ?_
        refine x_get (j := 36) (v := .int (xJ (s_4 268 36))) hx hb hown hT hE hW cls_X11 (Or.inl (by decide)) (so_268 h0 g _) (by decide) rfl wq1221 dX11_readsStep_98 ?_
        refine x_rd hW (fun x9 ex9 rx9 => ?_)
        have q10 : s_4 268 36 = x9 := ex9.symm
        refine lv_istore_n (lv' := [(1, .int (xJ x9)), (0, .ref (h0 + 268))]) hx hb dX11_readsStep_101 rfl hl (by decide) rfl (fun ls hl => ?_)
        refine x_aload_n hx hb hl 1 rfl dX11_readsStep_102 rfl ?_
        refine x_get (j := 37) (v := .int (xJ (s_4 268 37))) hx hb hown hT hE hW cls_X11 (Or.inl (by decide)) (so_268 h0 g _) (by decide) rfl wq1222 dX11_readsStep_103 ?_
        refine x_rd hW (fun x11 ex11 rx11 => ?_)
        have q12 : s_4 268 37 = x11 := ex11.symm
        refine lv_istore_n (lv' := [(2, .int (xJ x11)), (1, .int (xJ x9)), (0, .ref (h0 + 268))]) hx hb dX11_readsStep_106 rfl hl (by decide) rfl (fun ls hl => ?_)
        refine x_aload_n hx hb hl 2 rfl dX11_readsStep_107 rfl ?_
        refine x_goi (x_runV (As := []) hx hb hml hown hT hE hW hl.1 (Or.inl (by decide)) (so_268 h0 g _) rfl cf_X11_here wq1391 wq106 wq1389 (c_X11_here l D g T h0 s_4 hW.2.1 q4_0 q4_1 q4_2 q4_3) ⟨rfl, rfl, ⟨by decide, by decide⟩, ⟨by decide, by decide⟩⟩ rfl rfl (Nat.le_of_ble_eq_true rfl) dX11_readsStep_108) hW (fun x13 s14 H locs rx13 hp15 hW => ?_)
        obtain ⟨es14, hp15⟩ := hp15
        subst es14
        have ghp15 := hp15
        obtain ⟨c108, ec108⟩ : ∃ c : Int, c = x13 := ⟨_, rfl⟩
        have C108 : c108 = zch (xm8 (s0 276)) (s0 268 10) (s_4 268 9) := by rw [ec108, ← hF_4 276 (by first | decide | omega), ← q4_6]; exact ghp15.1
        have B108 := ghp15.2
        have S108 := wst_cs c108
        refine x_goi (x_runS (As := [.int (xJ x13)]) hx hb hml hown hT hE hW hl.1 cf_X11_wayOf wq1453 wq1452 (c_X11_wayOfW l D g T h0 s_4 hW.2.1 x13 rx13) ⟨rfl, rfl, ⟨by decide, by decide⟩, ⟨by decide, by decide⟩⟩ rfl rfl (Nat.le_of_ble_eq_true rfl) dX11_readsStep_111) hW (fun x16 s17 H locs rx16 hp18 hW => ?_)
        obtain ⟨es17, hp18⟩ := hp18
        subst es17
        have ghp18 := hp18
        refine lv_istore_n (lv' := [(3, .int (xJ x16)), (2, .int (xJ x11)), (1, .int (xJ x9)), (0, .ref (h0 + 268))]) hx hb dX11_readsStep_114 rfl hl (by decide) rfl (fun ls hl => ?_)
        refine x_iload_n hx hb hl 0 rfl dX11_readsStep_115 rfl ?_
        refine x_iconst hx hb dX11_readsStep_116 ?_
        refine x_icmp_ne (tgt := 130) hx hb rx16 (by decide) dX11_readsStep_117 (by decide) (fun c19 => ?_) (fun c19 => ?_)
        · skip
          refine x_aload_n hx hb hl 3 rfl dX11_readsStep_130 rfl ?_
          refine x_aload_n hx hb hl 3 rfl dX11_readsStep_131 rfl ?_
          refine x_get (j := 9) (v := .int (xJ (s_4 268 9))) hx hb hown hT hE hW cls_X11 (Or.inl (by decide)) (so_268 h0 g _) (by decide) rfl wq1194 dX11_readsStep_132 ?_
          refine x_rd hW (fun x20 ex20 rx20 => ?_)
          have bx20 : 0 ≤ x20 ∧ x20 ≤ s_4 268 10 ∧ s_4 268 10 ≤ 240 := by rw [ex20]; exact q4_3
          refine x_iconst hx hb dX11_readsStep_135 ?_
          refine x_iadd hx hb dX11_readsStep_136 ?_
          refine x_put (j := 9) hx hb hown hT hE hW cls_X11 (by decide) (fun σ => so_268 h0 g σ) (by decide) (st_X11_9 h0 s_4 268 (x20 + 1)) (ln_X11_9 h0 _ _) wq1194 rfl rfl rfl (by omega) dX11_readsStep_137 (fun H locs s21 es21 hW => ?_)
          have q22 : IMn s21 := by rw [es21]; exact IMn_268 q4_0 (by omega)
          have q23 : IMk s21 := by rw [es21]; exact IMk_268 q4_1 (by omega)
          have q24 : IMo s21 := by rw [es21]; exact IMo_o (by unfold suIMo; first | decide | omega) q4_2
          have q25 : IR s21 := by rw [es21]; exact IR_268 q4_3 (by omega)
          have q26 : s21 268 8 = s0 268 8 := (show s21 268 8 = s_4 268 8 from by rw [es21, xU_j _ _ (by decide)]).trans q4_4
          have q27 : s21 268 58 = s0 268 58 := (show s21 268 58 = s_4 268 58 from by rw [es21, xU_j _ _ (by decide)]).trans q4_5
          have q28 : s21 268 10 = s0 268 10 := (show s21 268 10 = s_4 268 10 from by rw [es21, xU_j _ _ (by decide)]).trans q4_6
          have q29 : s21 268 34 = s0 268 34 := (show s21 268 34 = s_4 268 34 from by rw [es21, xU_j _ _ (by decide)]).trans q4_7
          have q30 : s21 268 17 = s0 268 17 := (show s21 268 17 = s_4 268 17 from by rw [es21, xU_j _ _ (by decide)]).trans q4_9
          have q31 : s21 268 48 = s0 268 48 := (show s21 268 48 = s_4 268 48 from by rw [es21, xU_j _ _ (by decide)]).trans q4_10
          have q32 : s21 268 36 = x9 := (show s21 268 36 = s_4 268 36 from by rw [es21, xU_j _ _ (by decide)]).trans q10
          have q33 : s21 268 37 = x11 := (show s21 268 37 = s_4 268 37 from by rw [es21, xU_j _ _ (by decide)]).trans q12
          have q34 : s21 268 9 = (x20 + 1) := by rw [es21, xU_s]
          have hF35 := hF_4.put es21 (by omega)
          have E137 := es21
          refine x_aload_n hx hb hl 3 rfl dX11_readsStep_140 rfl ?_
          refine x_get (j := 34) (v := .int (xJ (s21 268 34))) hx hb hown hT hE hW cls_X11 (Or.inl (by decide)) (so_268 h0 g _) (by decide) rfl wq1219 dX11_readsStep_141 ?_
          refine x_rd hW (fun x36 ex36 rx36 => ?_)
          have fx36 : x36 = s0 268 34 := ex36.trans q29
          refine x_iload_n hx hb hl 1 rfl dX11_readsStep_144 rfl ?_
          refine x_iadd hx hb dX11_readsStep_145 ?_
          refine x_bipush hx hb dX11_readsStep_146 (by decide) ?_
          refine x_icmp_le (tgt := 159) hx hb (by omega) (by decide) dX11_readsStep_148 (by decide) (fun c37 => ?_) (fun c37 => ?_)
          · skip
            refine x_aload_n hx hb hl 3 rfl dX11_readsStep_159 rfl ?_
            refine x_get (j := 30) (v := .ref (h0 + 289)) hx hb hown hT hE hW cls_X11 (Or.inl (by decide)) (so_268 h0 g _) (by decide) rfl wq1215 dX11_readsStep_160 ?_
            refine x_aload_n hx hb hl 3 rfl dX11_readsStep_163 rfl ?_
            refine x_get (j := 34) (v := .int (xJ (s21 268 34))) hx hb hown hT hE hW cls_X11 (Or.inl (by decide)) (so_268 h0 g _) (by decide) rfl wq1219 dX11_readsStep_164 ?_
            refine x_rd hW (fun x38 ex38 rx38 => ?_)
            have fx38 : x38 = s0 268 34 := ex38.trans q29
            refine x_iload_n hx hb hl 0 rfl dX11_readsStep_167 rfl ?_
            refine x_i2bm hx hb rx16 dX11_readsStep_168 (fun x39 rx39 mx39 bx39 => ?_)
            obtain ⟨y41, ey41, ry41, my41, by41⟩ := xnbm (v := x39) rx39
            refine x_bast (w := y41) hx hb hE hW (by decide) (fun σ => sa_289 h0 g σ) (by omega) (by decide) ey41 ry41 dX11_readsStep_169 (fun H locs s40 es40 hW => ?_)
            have q42 : IMn s40 := by rw [es40]; exact IMn_o (by unfold suIMn; first | decide | omega) q22
            have q43 : IMk s40 := by rw [es40]; exact IMk_o (by unfold suIMk; first | decide | omega) q23
            have q44 : IMo s40 := by rw [es40]; exact IMo_o (by unfold suIMo; first | decide | omega) q24
            have q45 : IR s40 := by rw [es40]; exact IR_o (by unfold suIR; first | decide | omega) q25
            have q46 : s40 268 8 = s0 268 8 := (show s40 268 8 = s21 268 8 from by rw [es40, xU_k _ _ _ (by first | decide | omega)]).trans q26
            have q47 : s40 268 58 = s0 268 58 := (show s40 268 58 = s21 268 58 from by rw [es40, xU_k _ _ _ (by first | decide | omega)]).trans q27
            have q48 : s40 268 10 = s0 268 10 := (show s40 268 10 = s21 268 10 from by rw [es40, xU_k _ _ _ (by first | decide | omega)]).trans q28
            have q49 : s40 268 34 = s0 268 34 := (show s40 268 34 = s21 268 34 from by rw [es40, xU_k _ _ _ (by first | decide | omega)]).trans q29
            have q50 : s40 268 17 = s0 268 17 := (show s40 268 17 = s21 268 17 from by rw [es40, xU_k _ _ _ (by first | decide | omega)]).trans q30
            have q51 : s40 268 48 = s0 268 48 := (show s40 268 48 = s21 268 48 from by rw [es40, xU_k _ _ _ (by first | decide | omega)]).trans q31
            have q52 : s40 268 36 = x9 := (show s40 268 36 = s21 268 36 from by rw [es40, xU_k _ _ _ (by first | decide | omega)]).trans q32
            have q53 : s40 268 37 = x11 := (show s40 268 37 = s21 268 37 from by rw [es40, xU_k _ _ _ (by first | decide | omega)]).trans q33
            have q54 : s40 268 9 = (x20 + 1) := (show s40 268 9 = s21 268 9 from by rw [es40, xU_k _ _ _ (by first | decide | omega)]).trans q34
            have hF55 := hF35.put es40 (by omega)
            have E169 := es40
            have A169 : s40 289 = xud (s_4 289) (s_4 268 34) (2 * wst c108) := by
              rw [es40, xU_xud, E137, xU_k _ _ _ (by first | decide | omega)]
              congr 1 <;> omega
            refine x_aload_n hx hb hl 3 rfl dX11_readsStep_170 rfl ?_
            refine x_aload_n hx hb hl 3 rfl dX11_readsStep_171 rfl ?_
            refine x_get (j := 34) (v := .int (xJ (s40 268 34))) hx hb hown hT hE hW cls_X11 (Or.inl (by decide)) (so_268 h0 g _) (by decide) rfl wq1219 dX11_readsStep_172 ?_
            refine x_rd hW (fun x56 ex56 rx56 => ?_)
            have fx56 : x56 = s0 268 34 := ex56.trans q49
            refine x_iconst hx hb dX11_readsStep_175 ?_
            refine x_iadd hx hb dX11_readsStep_176 ?_
            refine x_put (j := 34) hx hb hown hT hE hW cls_X11 (by decide) (fun σ => so_268 h0 g σ) (by decide) (st_X11_34 h0 s40 268 (x56 + 1)) (ln_X11_34 h0 _ _) wq1219 rfl rfl rfl (by omega) dX11_readsStep_177 (fun H locs s57 es57 hW => ?_)
            have q58 : IMn s57 := by rw [es57]; exact IMn_268 q42 (by omega)
            have q59 : IMk s57 := by rw [es57]; exact IMk_268 q43 (by omega)
            have q60 : IMo s57 := by rw [es57]; exact IMo_o (by unfold suIMo; first | decide | omega) q44
            have q61 : IR s57 := by rw [es57]; exact IR_268 q45 (by omega)
            have q62 : s57 268 8 = s0 268 8 := (show s57 268 8 = s40 268 8 from by rw [es57, xU_j _ _ (by decide)]).trans q46
            have q63 : s57 268 58 = s0 268 58 := (show s57 268 58 = s40 268 58 from by rw [es57, xU_j _ _ (by decide)]).trans q47
            have q64 : s57 268 10 = s0 268 10 := (show s57 268 10 = s40 268 10 from by rw [es57, xU_j _ _ (by decide)]).trans q48
            have q65 : s57 268 34 = (x56 + 1) := by rw [es57, xU_s]
            have q66 : s57 268 17 = s0 268 17 := (show s57 268 17 = s40 268 17 from by rw [es57, xU_j _ _ (by decide)]).trans q50
            have q67 : s57 268 48 = s0 268 48 := (show s57 268 48 = s40 268 48 from by rw [es57, xU_j _ _ (by decide)]).trans q51
            have q68 : s57 268 36 = x9 := (show s57 268 36 = s40 268 36 from by rw [es57, xU_j _ _ (by decide)]).trans q52
            have q69 : s57 268 37 = x11 := (show s57 268 37 = s40 268 37 from by rw [es57, xU_j _ _ (by decide)]).trans q53
            have q70 : s57 268 9 = (x20 + 1) := (show s57 268 9 = s40 268 9 from by rw [es57, xU_j _ _ (by decide)]).trans q54
            have hF71 := hF55.put es57 (by omega)
            have E177 := es57
            have Q177 : s57 290 = s_4 290 ∧ s57 291 = s_4 291 ∧ s57 292 = s_4 292 ∧ s57 268 35 = s_4 268 35 := ⟨by rw [E177, xU_k _ _ _ (by first | decide | omega), E169, xU_k _ _ _ (by first | decide | omega), E137, xU_k _ _ _ (by first | decide | omega)], by rw [E177, xU_k _ _ _ (by first | decide | omega), E169, xU_k _ _ _ (by first | decide | omega), E137, xU_k _ _ _ (by first | decide | omega)], by rw [E177, xU_k _ _ _ (by first | decide | omega), E169, xU_k _ _ _ (by first | decide | omega), E137, xU_k _ _ _ (by first | decide | omega)], by rw [E177, xU_j _ _ (by decide), E169, xU_k _ _ _ (by first | decide | omega), E137, xU_j _ _ (by decide)]⟩
            have Q178 : s57 268 34 = s_4 268 34 + 1 ∧ s57 268 9 = s_4 268 9 + 1 := ⟨by rw [E177, xU_s]; omega, by rw [E177, xU_j _ _ (by decide), E169, xU_k _ _ _ (by first | decide | omega), E137, xU_s]; omega⟩
            have Q289 : s57 289 = xud (s_4 289) (s_4 268 34) (2 * wst c108) := by rw [E177, xU_k _ _ _ (by first | decide | omega)]; exact A169
            refine x_aload_n hx hb hl 3 rfl dX11_readsStep_180 rfl ?_
            refine x_aload_n hx hb hl 3 rfl dX11_readsStep_181 rfl ?_
            refine x_get (j := 34) (v := .int (xJ (s57 268 34))) hx hb hown hT hE hW cls_X11 (Or.inl (by decide)) (so_268 h0 g _) (by decide) rfl wq1219 dX11_readsStep_182 ?_
            refine x_rd hW (fun x72 ex72 rx72 => ?_)
            have fx72 : x72 = (x56 + 1) := ex72.trans q65
            refine x_iconst hx hb dX11_readsStep_185 ?_
            refine x_isub hx hb dX11_readsStep_186 ?_
            obtain ⟨a186, ea186⟩ : ∃ a : Int, a = (x72 - 1) := ⟨_, rfl⟩
            refine x_iload_n hx hb hl 1 rfl dX11_readsStep_187 rfl ?_
            refine x_iload_n hx hb hl 2 rfl dX11_readsStep_188 rfl ?_
            refine x_goi (x_runV (As := [.int (xJ (x72 - 1)), .int (xJ x11), .int (xJ x9)]) hx hb hml hown hT hE hW hl.1 (Or.inl (by decide)) (so_268 h0 g _) rfl cf_X11_repeats wq1457 wq114 wq1455 (c_X11_repeatsJ l D g T h0 s57 hW.2.1 (x72 - 1) (by omega) x11 rx11 x9 rx9 (by omega) (by omega) (by omega) (by
                rw [Q289, Q178.1]
                intro q q1 q2
                by_cases h : q = s_4 268 34
                · subst h; rw [xud_s]; omega
                · rw [xud_o _ _ h]; exact v4_1.bb q q1 (by omega)) q58 q59 q60 q61) ⟨rfl, rfl, ⟨by decide, by decide⟩, ⟨by decide, by decide⟩⟩ rfl rfl (Nat.le_of_ble_eq_true rfl) dX11_readsStep_189) hW (fun x73 s74 H locs rx73 hp75 hW => ?_)
            obtain ⟨fs74, hp75⟩ := hp75
            have hF76 := hF71.call fs74 (fun k h => by omega)
            have ghp75 := hp75.2
            have H189 := ghp75
            rw [← ea186, show s57 268 34 - a186 = 1 from by omega, Int.mul_one, Q289] at H189
            have D189 : (x73 = 1 ∧ s_4 268 34 + s_4 268 37 ≤ 60 ∧ s74 268 34 = s_4 268 34 + s_4 268 37) ∨ x73 = 0 := H189.elim (fun q => Or.inl (by omega)) (fun q => Or.inr q.1)
            have N189 : x73 ≠ 0 → s74 289 = wrep (xud (s_4 289) (s_4 268 34) (2 * wst c108)) (s_4 268 34) (s_4 268 34 + 1) (s_4 268 37 - 1) := fun hv => by
              have y := (H189.resolve_right (fun q => hv q.1)).2.2.2
              rw [show a186 = s_4 268 34 from by omega, Q178.1] at y
              exact y.trans (wrep_c (by omega))
            have A189z : x73 ≠ 0 → (zRW s74 ∧ zR0 s74) ∧ zWY (xm8 (s0 276)) (s0 268 10) Z false (s74 268 9) (s74 268 34) (s74 289) (zst s74) := fun hv => by
              have d := D189.resolve_right hv
              have k5 : s74 268 35 = s_4 268 35 := by omega
              have k9 : s74 268 9 = s_4 268 9 + 1 := by omega
              refine ⟨⟨v4_0.1.f ⟨by omega, by omega⟩ ⟨by omega, by omega⟩ ((fs74 291 (by first | decide | omega)).trans Q177.2.1) ((fs74 292 (by first | decide | omega)).trans Q177.2.2.1), v4_0.2.f (by omega) ((fs74 290 (by first | decide | omega)).trans Q177.1)⟩, ?_⟩
              rw [zst_f k5 ((fs74 290 (by first | decide | omega)).trans Q177.1) ((fs74 291 (by first | decide | omega)).trans Q177.2.1) ((fs74 292 (by first | decide | omega)).trans Q177.2.2.1)]
              exact v4_1.step (by omega) v4_2.2 v4_2.1 (by omega) (by rw [← C108]; omega) (by omega) k9 d.2.2 (by rw [← C108]; exact N189 hv)
            refine x_if_ne (tgt := 197) hx hb rx73 dX11_readsStep_192 (by decide) (fun c77 => ?_) (fun c77 => ?_)
            · skip
              have L197 : ∀ (fu : Nat) (s_197 : xS) (H : Heap) (locs : List Loc) (ls : Array Slot), (xFr (fun k => k = 268 ∨ k = 289 ∨ k = 290 ∨ k = 291 ∨ k = 292) s0 s_197) → (IMn s_197) → (IMk s_197) → (IMo s_197) → (IR s_197) → (s_197 268 8 = s0 268 8) → (s_197 268 58 = s0 268 58) → (s_197 268 10 = s0 268 10) → (s_197 268 36 = x9) → (s_197 268 37 = x11) → (s_197 268 17 = s0 268 17) → (s_197 268 48 = s0 268 48) → (zRW s_197 ∧ zR0 s_197) → (zWY (xm8 (s0 276)) (s0 268 10) Z false (s_197 268 9) (s_197 268 34) (s_197 289) (zst s_197)) → (s0 268 9 + 1 ≤ s_197 268 9) → (241 - s_197 268 9).toNat < fu → xW D g h0 s H locs s_197 → lv_has ls 4 [(0, .ref (h0 + 268))] → W p l e { frames := 2, cells := 0, slots := 0, locals := 47 } s m args below meth c H locs 0 0 Q (F0 m 197 ls []) := by
                intro fu
                induction fu with
                | zero => intro s_197 H locs ls hF_197 q197_0 q197_1 q197_2 q197_3 q197_4 q197_5 q197_6 q197_9 q197_10 q197_11 q197_12 v197_0 v197_1 v197_2 hm; exact absurd hm (Nat.not_lt_zero _)
                | succ fu ih197 =>
                  intro s_197 H locs ls hF_197 q197_0 q197_1 q197_2 q197_3 q197_4 q197_5 q197_6 q197_9 q197_10 q197_11 q197_12 v197_0 v197_1 v197_2 hm hW hl
                  have hm_197 := fun (_ : Unit) => hm
                  clear hm
                  have r197 : 0 ≤ s_197 268 9 ∧ s_197 268 9 ≤ s_197 268 10 ∧ s_197 268 10 ≤ 240 := q197_3
                  have w197 := v197_0.1.1
                  have w195 := v197_0.1.2.1
                  have L197 := zst_l (σ := s_197) w195
                  refine x_aload_n hx hb hl 0 rfl dX11_readsStep_197 rfl ?_
                  refine x_goi (x_runV (As := []) hx hb hml hown hT hE hW hl.1 (Or.inl (by decide)) (so_268 h0 g _) rfl cf_X11_here wq1391 wq106 wq1389 (c_X11_here l D g T h0 s_197 hW.2.1 q197_0 q197_1 q197_2 q197_3) ⟨rfl, rfl, ⟨by decide, by decide⟩, ⟨by decide, by decide⟩⟩ rfl rfl (Nat.le_of_ble_eq_true rfl) dX11_readsStep_198) hW (fun x78 s79 H locs rx78 hp80 hW => ?_)
                  obtain ⟨es79, hp80⟩ := hp80
                  subst es79
                  have ghp80 := hp80
                  obtain ⟨c198, ec198⟩ : ∃ c : Int, c = x78 := ⟨_, rfl⟩
                  have C198 : c198 = zch (xm8 (s0 276)) (s0 268 10) (s_197 268 9) := by rw [ec198, ← hF_197 276 (by first | decide | omega), ← q197_6]; exact ghp80.1
                  have B198 := ghp80.2
                  refine x_bipush hx hb dX11_readsStep_201 (by decide) ?_
                  refine x_icmp_ne (tgt := 269) hx hb rx78 (by decide) dX11_readsStep_203 (by decide) (fun c81 => ?_) (fun c81 => ?_)
                  · skip
                    refine x_iconst hx hb dX11_readsStep_269 ?_
                    rw [eQ]
                    exact x_zret hx hb hr hlk hW (by omega) ⟨hF_197, ⟨q197_0, q197_1, q197_2, q197_3, q197_4, q197_5, q197_6, q197_11, q197_12, trivial⟩, Or.inr ⟨by omega, v197_0.1, v197_0.2, by omega, v197_1, by omega⟩⟩ dX11_readsStep_270
                  refine x_aload_n hx hb hl 0 rfl dX11_readsStep_206 rfl ?_
                  refine x_get (j := 35) (v := .int (xJ (s_197 268 35))) hx hb hown hT hE hW cls_X11 (Or.inl (by decide)) (so_268 h0 g _) (by decide) rfl wq1220 dX11_readsStep_207 ?_
                  refine x_rd hW (fun x82 ex82 rx82 => ?_)
                  have q83 : s_197 268 35 = x82 := ex82.symm
                  refine x_if_le (tgt := 269) hx hb rx82 dX11_readsStep_210 (by decide) (fun c84 => ?_) (fun c84 => ?_)
                  · skip
                    refine x_iconst hx hb dX11_readsStep_269 ?_
                    rw [eQ]
                    exact x_zret hx hb hr hlk hW (by omega) ⟨hF_197, ⟨q197_0, q197_1, q197_2, q197_3, q197_4, q197_5, q197_6, q197_11, q197_12, trivial⟩, Or.inr ⟨by omega, v197_0.1, v197_0.2, by omega, v197_1, by omega⟩⟩ dX11_readsStep_270
                  refine x_aload_n hx hb hl 0 rfl dX11_readsStep_213 rfl ?_
                  refine x_aload_n hx hb hl 0 rfl dX11_readsStep_214 rfl ?_
                  refine x_get (j := 9) (v := .int (xJ (s_197 268 9))) hx hb hown hT hE hW cls_X11 (Or.inl (by decide)) (so_268 h0 g _) (by decide) rfl wq1194 dX11_readsStep_215 ?_
                  refine x_rd hW (fun x85 ex85 rx85 => ?_)
                  have bx85 : 0 ≤ x85 ∧ x85 ≤ s_197 268 10 ∧ s_197 268 10 ≤ 240 := by rw [ex85]; exact q197_3
                  refine x_iconst hx hb dX11_readsStep_218 ?_
                  refine x_iadd hx hb dX11_readsStep_219 ?_
                  refine x_put (j := 9) hx hb hown hT hE hW cls_X11 (by decide) (fun σ => so_268 h0 g σ) (by decide) (st_X11_9 h0 s_197 268 (x85 + 1)) (ln_X11_9 h0 _ _) wq1194 rfl rfl rfl (by omega) dX11_readsStep_220 (fun H locs s86 es86 hW => ?_)
                  have q87 : IMn s86 := by rw [es86]; exact IMn_268 q197_0 (by omega)
                  have q88 : IMk s86 := by rw [es86]; exact IMk_268 q197_1 (by omega)
                  have q89 : IMo s86 := by rw [es86]; exact IMo_o (by unfold suIMo; first | decide | omega) q197_2
                  have q90 : IR s86 := by rw [es86]; exact IR_268 q197_3 (by omega)
                  have q91 : s86 268 8 = s0 268 8 := (show s86 268 8 = s_197 268 8 from by rw [es86, xU_j _ _ (by decide)]).trans q197_4
                  have q92 : s86 268 58 = s0 268 58 := (show s86 268 58 = s_197 268 58 from by rw [es86, xU_j _ _ (by decide)]).trans q197_5
                  have q93 : s86 268 10 = s0 268 10 := (show s86 268 10 = s_197 268 10 from by rw [es86, xU_j _ _ (by decide)]).trans q197_6
                  have q94 : s86 268 36 = x9 := (show s86 268 36 = s_197 268 36 from by rw [es86, xU_j _ _ (by decide)]).trans q197_9
                  have q95 : s86 268 37 = x11 := (show s86 268 37 = s_197 268 37 from by rw [es86, xU_j _ _ (by decide)]).trans q197_10
                  have q96 : s86 268 17 = s0 268 17 := (show s86 268 17 = s_197 268 17 from by rw [es86, xU_j _ _ (by decide)]).trans q197_11
                  have q97 : s86 268 48 = s0 268 48 := (show s86 268 48 = s_197 268 48 from by rw [es86, xU_j _ _ (by decide)]).trans q197_12
                  have q98 : s86 268 35 = x82 := (show s86 268 35 = s_197 268 35 from by rw [es86, xU_j _ _ (by decide)]).trans q83
                  have q99 : s86 268 9 = (x85 + 1) := by rw [es86, xU_s]
                  have hF100 := hF_197.put es86 (by omega)
                  have E220 := es86
                  refine x_aload_n hx hb hl 0 rfl dX11_readsStep_223 rfl ?_
                  refine x_aload_n hx hb hl 0 rfl dX11_readsStep_224 rfl ?_
                  refine x_get (j := 35) (v := .int (xJ (s86 268 35))) hx hb hown hT hE hW cls_X11 (Or.inl (by decide)) (so_268 h0 g _) (by decide) rfl wq1220 dX11_readsStep_225 ?_
                  refine x_rd hW (fun x101 ex101 rx101 => ?_)
                  have fx101 : x101 = x82 := ex101.trans q98
                  refine x_iconst hx hb dX11_readsStep_228 ?_
                  refine x_isub hx hb dX11_readsStep_229 ?_
                  refine x_put (j := 35) hx hb hown hT hE hW cls_X11 (by decide) (fun σ => so_268 h0 g σ) (by decide) (st_X11_35 h0 s86 268 (x101 - 1)) (ln_X11_35 h0 _ _) wq1220 rfl rfl rfl (by omega) dX11_readsStep_230 (fun H locs s102 es102 hW => ?_)
                  have q103 : IMn s102 := by rw [es102]; exact IMn_268 q87 (by omega)
                  have q104 : IMk s102 := by rw [es102]; exact IMk_268 q88 (by omega)
                  have q105 : IMo s102 := by rw [es102]; exact IMo_o (by unfold suIMo; first | decide | omega) q89
                  have q106 : IR s102 := by rw [es102]; exact IR_268 q90 (by omega)
                  have q107 : s102 268 8 = s0 268 8 := (show s102 268 8 = s86 268 8 from by rw [es102, xU_j _ _ (by decide)]).trans q91
                  have q108 : s102 268 58 = s0 268 58 := (show s102 268 58 = s86 268 58 from by rw [es102, xU_j _ _ (by decide)]).trans q92
                  have q109 : s102 268 10 = s0 268 10 := (show s102 268 10 = s86 268 10 from by rw [es102, xU_j _ _ (by decide)]).trans q93
                  have q110 : s102 268 36 = x9 := (show s102 268 36 = s86 268 36 from by rw [es102, xU_j _ _ (by decide)]).trans q94
                  have q111 : s102 268 37 = x11 := (show s102 268 37 = s86 268 37 from by rw [es102, xU_j _ _ (by decide)]).trans q95
                  have q112 : s102 268 17 = s0 268 17 := (show s102 268 17 = s86 268 17 from by rw [es102, xU_j _ _ (by decide)]).trans q96
                  have q113 : s102 268 48 = s0 268 48 := (show s102 268 48 = s86 268 48 from by rw [es102, xU_j _ _ (by decide)]).trans q97
                  have q114 : s102 268 35 = (x101 - 1) := by rw [es102, xU_s]
                  have q115 : s102 268 9 = (x85 + 1) := (show s102 268 9 = s86 268 9 from by rw [es102, xU_j _ _ (by decide)]).trans q99
                  have hF116 := hF100.put es102 (by omega)
                  have E230 := es102
                  have Q230 : s102 290 = s_197 290 ∧ s102 291 = s_197 291 ∧ s102 292 = s_197 292 := ⟨by rw [E230, xU_k _ _ _ (by first | decide | omega), E220, xU_k _ _ _ (by first | decide | omega)], by rw [E230, xU_k _ _ _ (by first | decide | omega), E220, xU_k _ _ _ (by first | decide | omega)], by rw [E230, xU_k _ _ _ (by first | decide | omega), E220, xU_k _ _ _ (by first | decide | omega)]⟩
                  have Q231 : s102 268 35 = s_197 268 35 - 1 ∧ s102 268 34 = s_197 268 34 ∧ s102 268 9 = s_197 268 9 + 1 := ⟨by rw [E230, xU_s]; omega, by rw [E230, xU_j _ _ (by decide), E220, xU_j _ _ (by decide)], by rw [E230, xU_j _ _ (by decide), E220, xU_s]; omega⟩
                  have O230 := zst_pop (σ := s_197) (τ := s102) (by omega) Q231.1 Q230.1 Q230.2.1 Q230.2.2
                  have W230 := v197_0.1.2.2 (s102 268 35) (by omega) (by omega)
                  have X230 := v197_0.2 (s102 268 35) (by omega) (by omega)
                  have P230 := v197_1
                  rw [O230] at P230
                  have Q289b : s102 289 = s_197 289 := by rw [E230, xU_k _ _ _ (by first | decide | omega), E220, xU_k _ _ _ (by first | decide | omega)]
                  refine x_aload_n hx hb hl 0 rfl dX11_readsStep_233 rfl ?_
                  refine x_aload_n hx hb hl 0 rfl dX11_readsStep_234 rfl ?_
                  refine x_get (j := 32) (v := .ref (h0 + 291)) hx hb hown hT hE hW cls_X11 (Or.inl (by decide)) (so_268 h0 g _) (by decide) rfl wq1217 dX11_readsStep_235 ?_
                  refine x_aload_n hx hb hl 0 rfl dX11_readsStep_238 rfl ?_
                  refine x_get (j := 35) (v := .int (xJ (s102 268 35))) hx hb hown hT hE hW cls_X11 (Or.inl (by decide)) (so_268 h0 g _) (by decide) rfl wq1220 dX11_readsStep_239 ?_
                  refine x_rd hW (fun x117 ex117 rx117 => ?_)
                  have fx117 : x117 = (x101 - 1) := ex117.trans q114
                  refine x_iald hx hb hE hW (Or.inl (by decide)) (sa_291 h0 g _) (by omega) (by decide) dX11_readsStep_242 ?_
                  refine x_rd hW (fun x118 ex118 rx118 => ?_)
                  have V242 : x118 = s_197 291 (s102 268 35) := by rw [ex118, Q230.2.1, show x117 = s102 268 35 from by omega]
                  refine x_aload_n hx hb hl 0 rfl dX11_readsStep_243 rfl ?_
                  refine x_get (j := 33) (v := .ref (h0 + 292)) hx hb hown hT hE hW cls_X11 (Or.inl (by decide)) (so_268 h0 g _) (by decide) rfl wq1218 dX11_readsStep_244 ?_
                  refine x_aload_n hx hb hl 0 rfl dX11_readsStep_247 rfl ?_
                  refine x_get (j := 35) (v := .int (xJ (s102 268 35))) hx hb hown hT hE hW cls_X11 (Or.inl (by decide)) (so_268 h0 g _) (by decide) rfl wq1220 dX11_readsStep_248 ?_
                  refine x_rd hW (fun x119 ex119 rx119 => ?_)
                  have fx119 : x119 = (x101 - 1) := ex119.trans q114
                  refine x_iald hx hb hE hW (Or.inl (by decide)) (sa_292 h0 g _) (by omega) (by decide) dX11_readsStep_251 ?_
                  refine x_rd hW (fun x120 ex120 rx120 => ?_)
                  have V251 : x120 = s_197 292 (s102 268 35) := by rw [ex120, Q230.2.2, show x119 = s102 268 35 from by omega]
                  refine x_aload_n hx hb hl 0 rfl dX11_readsStep_252 rfl ?_
                  refine x_get (j := 31) (v := .ref (h0 + 290)) hx hb hown hT hE hW cls_X11 (Or.inl (by decide)) (so_268 h0 g _) (by decide) rfl wq1216 dX11_readsStep_253 ?_
                  refine x_aload_n hx hb hl 0 rfl dX11_readsStep_256 rfl ?_
                  refine x_get (j := 35) (v := .int (xJ (s102 268 35))) hx hb hown hT hE hW cls_X11 (Or.inl (by decide)) (so_268 h0 g _) (by decide) rfl wq1220 dX11_readsStep_257 ?_
                  refine x_rd hW (fun x121 ex121 rx121 => ?_)
                  have fx121 : x121 = (x101 - 1) := ex121.trans q114
                  refine x_iald hx hb hE hW (Or.inl (by decide)) (sa_290 h0 g _) (by omega) (by decide) dX11_readsStep_260 ?_
                  refine x_rd hW (fun x122 ex122 rx122 => ?_)
                  have V260 : x122 = s_197 290 (s102 268 35) := by rw [ex122, Q230.1, show x121 = s102 268 35 from by omega]
                  refine x_goi (x_runV (As := [.int (xJ x118), .int (xJ x120), .int (xJ x122)]) hx hb hml hown hT hE hW hl.1 (Or.inl (by decide)) (so_268 h0 g _) rfl cf_X11_repeats wq1457 wq114 wq1455 (c_X11_repeatsJ l D g T h0 s102 hW.2.1 x118 rx118 x120 rx120 x122 rx122 (by omega) (by omega) (by omega) (by rw [Q231.2.1, Q289b]; exact P230.bb) q103 q104 q105 q106) ⟨rfl, rfl, ⟨by decide, by decide⟩, ⟨by decide, by decide⟩⟩ rfl rfl (Nat.le_of_ble_eq_true rfl) dX11_readsStep_261) hW (fun x123 s124 H locs rx123 hp125 hW => ?_)
                  obtain ⟨fs124, hp125⟩ := hp125
                  have hF126 := hF116.call fs124 (fun k h => by omega)
                  have ghp125 := hp125.2
                  have H261 := ghp125
                  rw [V242, V251, V260, Q231.2.1, Q289b] at H261
                  have A261z : x123 ≠ 0 → (zRW s124 ∧ zR0 s124) ∧ zWY (xm8 (s0 276)) (s0 268 10) Z false (s124 268 9) (s124 268 34) (s124 289) (zst s124) := fun hv => by
                    have d := H261.resolve_right (fun q => hv q.1)
                    have k5 : s124 268 35 = s102 268 35 := by omega
                    have k9 : s124 268 9 = s_197 268 9 + 1 := by omega
                    have m9 : 0 ≤ (s_197 292 (s102 268 35) - 1) * (s_197 268 34 - s_197 291 (s102 268 35)) := Int.mul_nonneg (by omega) (by omega)
                    refine ⟨⟨v197_0.1.f ⟨by omega, by omega⟩ ⟨by omega, by omega⟩ ((fs124 291 (by first | decide | omega)).trans Q230.2.1) ((fs124 292 (by first | decide | omega)).trans Q230.2.2), v197_0.2.f (by omega) ((fs124 290 (by first | decide | omega)).trans Q230.1)⟩, ?_⟩
                    rw [zst_f k5 (fs124 290 (by first | decide | omega)) (fs124 291 (by first | decide | omega)) (fs124 292 (by first | decide | omega))]
                    exact P230.pop (by omega) (by omega) (by omega) k9 d.2.2.1 d.2.2.2
                  refine x_if_ne (tgt := 197) hx hb rx123 dX11_readsStep_264 (by decide) (fun c127 => ?_) (fun c127 => ?_)
                  · skip
                    exact ih197 s124 H locs ls hF126 hp125.1.1 hp125.1.2.1 hp125.1.2.2.1 hp125.1.2.2.2.1 (hp125.1.2.2.2.2.1.trans q107) (hp125.1.2.2.2.2.2.1.trans q108) (hp125.1.2.2.2.2.2.2.1.trans q109) (hp125.1.2.2.2.2.2.2.2.2.2.1.trans q110) (hp125.1.2.2.2.2.2.2.2.2.2.2.1.trans q111) (hp125.1.2.2.2.2.2.2.2.2.2.2.2.1.trans q112) (hp125.1.2.2.2.2.2.2.2.2.2.2.2.2.1.trans q113) ((A261z (by omega)).1) ((A261z (by omega)).2) (by omega) (by have hm := hm_197 (); omega) hW (lv_sub hl [0] rfl)
                  refine x_iconst hx hb dX11_readsStep_267 ?_
                  rw [eQ]
                  exact x_zret hx hb hr hlk hW (by omega) ⟨hF126, ⟨hp125.1.1, hp125.1.2.1, hp125.1.2.2.1, hp125.1.2.2.2.1, (hp125.1.2.2.2.2.1.trans q107), (hp125.1.2.2.2.2.2.1.trans q108), (hp125.1.2.2.2.2.2.2.1.trans q109), (hp125.1.2.2.2.2.2.2.2.2.2.2.2.1.trans q112), (hp125.1.2.2.2.2.2.2.2.2.2.2.2.2.1.trans q113), trivial⟩, by
                      have d := H261.resolve_left (fun q => by omega)
                      have z := P230.x.pop6 (by omega) (by omega) d.2.1
                      exact Or.inl ⟨by omega, by omega, by omega, by omega⟩⟩ dX11_readsStep_268
              exact L197 ((241 - s74 268 9 : Int).toNat + 1) s74 H locs ls hF76 hp75.1.1 hp75.1.2.1 hp75.1.2.2.1 hp75.1.2.2.2.1 (hp75.1.2.2.2.2.1.trans q62) (hp75.1.2.2.2.2.2.1.trans q63) (hp75.1.2.2.2.2.2.2.1.trans q64) (hp75.1.2.2.2.2.2.2.2.2.2.1.trans q68) (hp75.1.2.2.2.2.2.2.2.2.2.2.1.trans q69) (hp75.1.2.2.2.2.2.2.2.2.2.2.2.1.trans q66) (hp75.1.2.2.2.2.2.2.2.2.2.2.2.2.1.trans q67) ((A189z (by omega)).1) ((A189z (by omega)).2) (by omega) (Nat.lt_succ_self _) hW (lv_sub hl [3] rfl)
            refine x_iconst hx hb dX11_readsStep_195 ?_
            rw [eQ]
            exact x_zret hx hb hr hlk hW (by omega) ⟨hF76, ⟨hp75.1.1, hp75.1.2.1, hp75.1.2.2.1, hp75.1.2.2.2.1, (hp75.1.2.2.2.2.1.trans q62), (hp75.1.2.2.2.2.2.1.trans q63), (hp75.1.2.2.2.2.2.2.1.trans q64), (hp75.1.2.2.2.2.2.2.2.2.2.2.2.1.trans q66), (hp75.1.2.2.2.2.2.2.2.2.2.2.2.2.1.trans q67), trivial⟩, by
                have d := H189.resolve_left (fun q => by omega)
                have z := v4_1.x.six (p1 := s_4 268 9) (by omega) v4_2.2 v4_2.1 (by omega) (by rw [← C108]; omega) (by omega)
                exact Or.inl ⟨by omega, by omega, by omega, by omega⟩⟩ dX11_readsStep_196
          refine x_aload_n hx hb hl 3 rfl dX11_readsStep_151 rfl ?_
          refine x_bipush hx hb dX11_readsStep_152 (by decide) ?_
          refine x_iload_n hx hb hl 2 rfl dX11_readsStep_154 rfl ?_
          refine x_goi (x_runV (As := [.int (xJ 6), .int (xJ x9)]) hx hb hml hown hT hE hW hl.1 (Or.inl (by decide)) (so_268 h0 g _) rfl cf_X11_wrongAt wq1401 wq107 wq1399 (c_X11_wrongAtW l D g T h0 s21 hW.2.1 6 (by decide) x9 rx9 (by omega) q22 q23 q24 q25) ⟨rfl, rfl, ⟨by decide, by decide⟩, ⟨by decide, by decide⟩⟩ rfl rfl (Nat.le_of_ble_eq_true rfl) dX11_readsStep_155) hW (fun x128 s129 H locs rx128 hp130 hW => ?_)
          obtain ⟨fs129, hp130⟩ := hp130
          have hF131 := hF35.call fs129 (fun k h => by omega)
          have ghp130 := hp130.2
          rw [eQ]
          exact x_zret hx hb hr hlk hW (by omega) ⟨hF131, ⟨hp130.1.1, hp130.1.2.1, hp130.1.2.2.1, hp130.1.2.2.2.1, (hp130.1.2.2.2.2.1.trans q26), (hp130.1.2.2.2.2.2.1.trans q27), (hp130.1.2.2.2.2.2.2.1.trans q28), (hp130.1.2.2.2.2.2.2.2.2.2.2.2.2.1.trans q30), (hp130.1.2.2.2.2.2.2.2.2.2.2.2.2.2.1.trans q31), trivial⟩, by
              have z := v4_1.x.six (p1 := s_4 268 9) (by omega) v4_2.2 v4_2.1 (by omega) (by rw [← C108]; omega) (by omega)
              exact Or.inl ⟨by omega, by omega, by omega, by omega⟩⟩ dX11_readsStep_158
        refine x_aload_n hx hb hl 3 rfl dX11_readsStep_120 rfl ?_
        refine x_iconst hx hb dX11_readsStep_121 ?_
        refine x_aload_n hx hb hl 3 rfl dX11_readsStep_122 rfl ?_
        refine x_get (j := 9) (v := .int (xJ (s_4 268 9))) hx hb hown hT hE hW cls_X11 (Or.inl (by decide)) (so_268 h0 g _) (by decide) rfl wq1194 dX11_readsStep_123 ?_
        refine x_rd hW (fun x132 ex132 rx132 => ?_)
        have bx132 : 0 ≤ x132 ∧ x132 ≤ s_4 268 10 ∧ s_4 268 10 ≤ 240 := by rw [ex132]; exact q4_3
        refine x_goi (x_runV (As := [.int (xJ 1), .int (xJ x132)]) hx hb hml hown hT hE hW hl.1 (Or.inl (by decide)) (so_268 h0 g _) rfl cf_X11_wrongAt wq1401 wq107 wq1399 (c_X11_wrongAtW l D g T h0 s_4 hW.2.1 1 (by decide) x132 rx132 (by omega) q4_0 q4_1 q4_2 q4_3) ⟨rfl, rfl, ⟨by decide, by decide⟩, ⟨by decide, by decide⟩⟩ rfl rfl (Nat.le_of_ble_eq_true rfl) dX11_readsStep_126) hW (fun x133 s134 H locs rx133 hp135 hW => ?_)
        obtain ⟨fs134, hp135⟩ := hp135
        have hF136 := hF_4.call fs134 (fun k h => by omega)
        have ghp135 := hp135.2
        rw [eQ]
        exact x_zret hx hb hr hlk hW (by omega) ⟨hF136, ⟨hp135.1.1, hp135.1.2.1, hp135.1.2.2.1, hp135.1.2.2.2.1, (hp135.1.2.2.2.2.1.trans q4_4), (hp135.1.2.2.2.2.2.1.trans q4_5), (hp135.1.2.2.2.2.2.2.1.trans q4_6), (hp135.1.2.2.2.2.2.2.2.2.2.2.2.2.1.trans q4_9), (hp135.1.2.2.2.2.2.2.2.2.2.2.2.2.2.1.trans q4_10), trivial⟩, by
            have z := v4_1.x.one (p1 := s_4 268 9) (by omega) v4_2.2 (by omega) (by rw [← C108]; omega)
            exact Or.inl ⟨by omega, by omega, by omega, by omega⟩⟩ dX11_readsStep_129
      refine x_aload_n hx hb hl 0 rfl dX11_readsStep_13 rfl ?_
      refine x_get (j := 35) (v := .int (xJ (s_4 268 35))) hx hb hown hT hE hW cls_X11 (Or.inl (by decide)) (so_268 h0 g _) (by decide) rfl wq1220 dX11_readsStep_14 ?_
      refine x_rd hW (fun x137 ex137 rx137 => ?_)
      have q138 : s_4 268 35 = x137 := ex137.symm
      refine x_iconst hx hb dX11_readsStep_17 ?_
      refine x_icmp_ne (tgt := 31) hx hb rx137 (by decide) dX11_readsStep_18 (by decide) (fun c139 => ?_) (fun c139 => ?_)
      · skip
        refine x_aload_n hx hb hl 0 rfl dX11_readsStep_31 rfl ?_
        refine x_get (j := 31) (v := .ref (h0 + 290)) hx hb hown hT hE hW cls_X11 (Or.inl (by decide)) (so_268 h0 g _) (by decide) rfl wq1216 dX11_readsStep_32 ?_
        refine x_aload_n hx hb hl 0 rfl dX11_readsStep_35 rfl ?_
        refine x_get (j := 35) (v := .int (xJ (s_4 268 35))) hx hb hown hT hE hW cls_X11 (Or.inl (by decide)) (so_268 h0 g _) (by decide) rfl wq1220 dX11_readsStep_36 ?_
        refine x_rd hW (fun x140 ex140 rx140 => ?_)
        have fx140 : x140 = x137 := ex140.trans q138
        refine x_aload_n hx hb hl 0 rfl dX11_readsStep_39 rfl ?_
        refine x_get (j := 36) (v := .int (xJ (s_4 268 36))) hx hb hown hT hE hW cls_X11 (Or.inl (by decide)) (so_268 h0 g _) (by decide) rfl wq1221 dX11_readsStep_40 ?_
        refine x_rd hW (fun x141 ex141 rx141 => ?_)
        have q142 : s_4 268 36 = x141 := ex141.symm
        refine x_iast hx hb hE hW (by decide) (fun σ => sa_290 h0 g σ) (by omega) (by decide) rx141 dX11_readsStep_43 (fun H locs s143 es143 hW => ?_)
        have q144 : IMn s143 := by rw [es143]; exact IMn_o (by unfold suIMn; first | decide | omega) q4_0
        have q145 : IMk s143 := by rw [es143]; exact IMk_o (by unfold suIMk; first | decide | omega) q4_1
        have q146 : IMo s143 := by rw [es143]; exact IMo_o (by unfold suIMo; first | decide | omega) q4_2
        have q147 : IR s143 := by rw [es143]; exact IR_o (by unfold suIR; first | decide | omega) q4_3
        have q148 : s143 268 8 = s0 268 8 := (show s143 268 8 = s_4 268 8 from by rw [es143, xU_k _ _ _ (by first | decide | omega)]).trans q4_4
        have q149 : s143 268 58 = s0 268 58 := (show s143 268 58 = s_4 268 58 from by rw [es143, xU_k _ _ _ (by first | decide | omega)]).trans q4_5
        have q150 : s143 268 10 = s0 268 10 := (show s143 268 10 = s_4 268 10 from by rw [es143, xU_k _ _ _ (by first | decide | omega)]).trans q4_6
        have q151 : s143 268 34 = s0 268 34 := (show s143 268 34 = s_4 268 34 from by rw [es143, xU_k _ _ _ (by first | decide | omega)]).trans q4_7
        have q152 : s143 268 17 = s0 268 17 := (show s143 268 17 = s_4 268 17 from by rw [es143, xU_k _ _ _ (by first | decide | omega)]).trans q4_9
        have q153 : s143 268 48 = s0 268 48 := (show s143 268 48 = s_4 268 48 from by rw [es143, xU_k _ _ _ (by first | decide | omega)]).trans q4_10
        have q154 : s143 268 35 = x137 := (show s143 268 35 = s_4 268 35 from by rw [es143, xU_k _ _ _ (by first | decide | omega)]).trans q138
        have q155 : s143 268 36 = x141 := (show s143 268 36 = s_4 268 36 from by rw [es143, xU_k _ _ _ (by first | decide | omega)]).trans q142
        have hF156 := hF_4.put es143 (by omega)
        have E43 := es143
        have V43 : x140 = s_4 268 35 ∧ x141 = s_4 268 36 := ⟨by omega, by omega⟩
        refine x_aload_n hx hb hl 0 rfl dX11_readsStep_44 rfl ?_
        refine x_get (j := 32) (v := .ref (h0 + 291)) hx hb hown hT hE hW cls_X11 (Or.inl (by decide)) (so_268 h0 g _) (by decide) rfl wq1217 dX11_readsStep_45 ?_
        refine x_aload_n hx hb hl 0 rfl dX11_readsStep_48 rfl ?_
        refine x_get (j := 35) (v := .int (xJ (s143 268 35))) hx hb hown hT hE hW cls_X11 (Or.inl (by decide)) (so_268 h0 g _) (by decide) rfl wq1220 dX11_readsStep_49 ?_
        refine x_rd hW (fun x157 ex157 rx157 => ?_)
        have fx157 : x157 = x137 := ex157.trans q154
        refine x_aload_n hx hb hl 0 rfl dX11_readsStep_52 rfl ?_
        refine x_get (j := 34) (v := .int (xJ (s143 268 34))) hx hb hown hT hE hW cls_X11 (Or.inl (by decide)) (so_268 h0 g _) (by decide) rfl wq1219 dX11_readsStep_53 ?_
        refine x_rd hW (fun x158 ex158 rx158 => ?_)
        have fx158 : x158 = s0 268 34 := ex158.trans q151
        refine x_iast hx hb hE hW (by decide) (fun σ => sa_291 h0 g σ) (by omega) (by decide) rx158 dX11_readsStep_56 (fun H locs s159 es159 hW => ?_)
        have q160 : IMn s159 := by rw [es159]; exact IMn_o (by unfold suIMn; first | decide | omega) q144
        have q161 : IMk s159 := by rw [es159]; exact IMk_o (by unfold suIMk; first | decide | omega) q145
        have q162 : IMo s159 := by rw [es159]; exact IMo_o (by unfold suIMo; first | decide | omega) q146
        have q163 : IR s159 := by rw [es159]; exact IR_o (by unfold suIR; first | decide | omega) q147
        have q164 : s159 268 8 = s0 268 8 := (show s159 268 8 = s143 268 8 from by rw [es159, xU_k _ _ _ (by first | decide | omega)]).trans q148
        have q165 : s159 268 58 = s0 268 58 := (show s159 268 58 = s143 268 58 from by rw [es159, xU_k _ _ _ (by first | decide | omega)]).trans q149
        have q166 : s159 268 10 = s0 268 10 := (show s159 268 10 = s143 268 10 from by rw [es159, xU_k _ _ _ (by first | decide | omega)]).trans q150
        have q167 : s159 268 34 = s0 268 34 := (show s159 268 34 = s143 268 34 from by rw [es159, xU_k _ _ _ (by first | decide | omega)]).trans q151
        have q168 : s159 268 17 = s0 268 17 := (show s159 268 17 = s143 268 17 from by rw [es159, xU_k _ _ _ (by first | decide | omega)]).trans q152
        have q169 : s159 268 48 = s0 268 48 := (show s159 268 48 = s143 268 48 from by rw [es159, xU_k _ _ _ (by first | decide | omega)]).trans q153
        have q170 : s159 268 35 = x137 := (show s159 268 35 = s143 268 35 from by rw [es159, xU_k _ _ _ (by first | decide | omega)]).trans q154
        have q171 : s159 268 36 = x141 := (show s159 268 36 = s143 268 36 from by rw [es159, xU_k _ _ _ (by first | decide | omega)]).trans q155
        have hF172 := hF156.put es159 (by omega)
        have E56 := es159
        have V56 : x157 = s_4 268 35 ∧ x158 = s_4 268 34 := ⟨by omega, by rw [ex158, E43, xU_k _ _ _ (by first | decide | omega)]⟩
        refine x_aload_n hx hb hl 0 rfl dX11_readsStep_57 rfl ?_
        refine x_get (j := 33) (v := .ref (h0 + 292)) hx hb hown hT hE hW cls_X11 (Or.inl (by decide)) (so_268 h0 g _) (by decide) rfl wq1218 dX11_readsStep_58 ?_
        refine x_aload_n hx hb hl 0 rfl dX11_readsStep_61 rfl ?_
        refine x_get (j := 35) (v := .int (xJ (s159 268 35))) hx hb hown hT hE hW cls_X11 (Or.inl (by decide)) (so_268 h0 g _) (by decide) rfl wq1220 dX11_readsStep_62 ?_
        refine x_rd hW (fun x173 ex173 rx173 => ?_)
        have fx173 : x173 = x137 := ex173.trans q170
        refine x_aload_n hx hb hl 0 rfl dX11_readsStep_65 rfl ?_
        refine x_get (j := 37) (v := .int (xJ (s159 268 37))) hx hb hown hT hE hW cls_X11 (Or.inl (by decide)) (so_268 h0 g _) (by decide) rfl wq1222 dX11_readsStep_66 ?_
        refine x_rd hW (fun x174 ex174 rx174 => ?_)
        have q175 : s159 268 37 = x174 := ex174.symm
        refine x_iast hx hb hE hW (by decide) (fun σ => sa_292 h0 g σ) (by omega) (by decide) rx174 dX11_readsStep_69 (fun H locs s176 es176 hW => ?_)
        have q177 : IMn s176 := by rw [es176]; exact IMn_o (by unfold suIMn; first | decide | omega) q160
        have q178 : IMk s176 := by rw [es176]; exact IMk_o (by unfold suIMk; first | decide | omega) q161
        have q179 : IMo s176 := by rw [es176]; exact IMo_o (by unfold suIMo; first | decide | omega) q162
        have q180 : IR s176 := by rw [es176]; exact IR_o (by unfold suIR; first | decide | omega) q163
        have q181 : s176 268 8 = s0 268 8 := (show s176 268 8 = s159 268 8 from by rw [es176, xU_k _ _ _ (by first | decide | omega)]).trans q164
        have q182 : s176 268 58 = s0 268 58 := (show s176 268 58 = s159 268 58 from by rw [es176, xU_k _ _ _ (by first | decide | omega)]).trans q165
        have q183 : s176 268 10 = s0 268 10 := (show s176 268 10 = s159 268 10 from by rw [es176, xU_k _ _ _ (by first | decide | omega)]).trans q166
        have q184 : s176 268 34 = s0 268 34 := (show s176 268 34 = s159 268 34 from by rw [es176, xU_k _ _ _ (by first | decide | omega)]).trans q167
        have q185 : s176 268 17 = s0 268 17 := (show s176 268 17 = s159 268 17 from by rw [es176, xU_k _ _ _ (by first | decide | omega)]).trans q168
        have q186 : s176 268 48 = s0 268 48 := (show s176 268 48 = s159 268 48 from by rw [es176, xU_k _ _ _ (by first | decide | omega)]).trans q169
        have q187 : s176 268 35 = x137 := (show s176 268 35 = s159 268 35 from by rw [es176, xU_k _ _ _ (by first | decide | omega)]).trans q170
        have q188 : s176 268 36 = x141 := (show s176 268 36 = s159 268 36 from by rw [es176, xU_k _ _ _ (by first | decide | omega)]).trans q171
        have q189 : s176 268 37 = x174 := (show s176 268 37 = s159 268 37 from by rw [es176, xU_k _ _ _ (by first | decide | omega)]).trans q175
        have hF190 := hF172.put es176 (by omega)
        have E69 := es176
        have V69 : x173 = s_4 268 35 ∧ x174 = s_4 268 37 := ⟨by omega, by rw [ex174, E56, xU_k _ _ _ (by first | decide | omega), E43, xU_k _ _ _ (by first | decide | omega)]⟩
        refine x_aload_n hx hb hl 0 rfl dX11_readsStep_70 rfl ?_
        refine x_aload_n hx hb hl 0 rfl dX11_readsStep_71 rfl ?_
        refine x_get (j := 35) (v := .int (xJ (s176 268 35))) hx hb hown hT hE hW cls_X11 (Or.inl (by decide)) (so_268 h0 g _) (by decide) rfl wq1220 dX11_readsStep_72 ?_
        refine x_rd hW (fun x191 ex191 rx191 => ?_)
        have fx191 : x191 = x137 := ex191.trans q187
        refine x_iconst hx hb dX11_readsStep_75 ?_
        refine x_iadd hx hb dX11_readsStep_76 ?_
        refine x_put (j := 35) hx hb hown hT hE hW cls_X11 (by decide) (fun σ => so_268 h0 g σ) (by decide) (st_X11_35 h0 s176 268 (x191 + 1)) (ln_X11_35 h0 _ _) wq1220 rfl rfl rfl (by omega) dX11_readsStep_77 (fun H locs s192 es192 hW => ?_)
        have q193 : IMn s192 := by rw [es192]; exact IMn_268 q177 (by omega)
        have q194 : IMk s192 := by rw [es192]; exact IMk_268 q178 (by omega)
        have q195 : IMo s192 := by rw [es192]; exact IMo_o (by unfold suIMo; first | decide | omega) q179
        have q196 : IR s192 := by rw [es192]; exact IR_268 q180 (by omega)
        have q197 : s192 268 8 = s0 268 8 := (show s192 268 8 = s176 268 8 from by rw [es192, xU_j _ _ (by decide)]).trans q181
        have q198 : s192 268 58 = s0 268 58 := (show s192 268 58 = s176 268 58 from by rw [es192, xU_j _ _ (by decide)]).trans q182
        have q199 : s192 268 10 = s0 268 10 := (show s192 268 10 = s176 268 10 from by rw [es192, xU_j _ _ (by decide)]).trans q183
        have q200 : s192 268 34 = s0 268 34 := (show s192 268 34 = s176 268 34 from by rw [es192, xU_j _ _ (by decide)]).trans q184
        have q201 : s192 268 17 = s0 268 17 := (show s192 268 17 = s176 268 17 from by rw [es192, xU_j _ _ (by decide)]).trans q185
        have q202 : s192 268 48 = s0 268 48 := (show s192 268 48 = s176 268 48 from by rw [es192, xU_j _ _ (by decide)]).trans q186
        have q203 : s192 268 35 = (x191 + 1) := by rw [es192, xU_s]
        have q204 : s192 268 36 = x141 := (show s192 268 36 = s176 268 36 from by rw [es192, xU_j _ _ (by decide)]).trans q188
        have q205 : s192 268 37 = x174 := (show s192 268 37 = s176 268 37 from by rw [es192, xU_j _ _ (by decide)]).trans q189
        have hF206 := hF190.put es192 (by omega)
        have E77 := es192
        refine x_aload_n hx hb hl 0 rfl dX11_readsStep_80 rfl ?_
        refine x_aload_n hx hb hl 0 rfl dX11_readsStep_81 rfl ?_
        refine x_get (j := 9) (v := .int (xJ (s192 268 9))) hx hb hown hT hE hW cls_X11 (Or.inl (by decide)) (so_268 h0 g _) (by decide) rfl wq1194 dX11_readsStep_82 ?_
        refine x_rd hW (fun x207 ex207 rx207 => ?_)
        have bx207 : 0 ≤ x207 ∧ x207 ≤ s192 268 10 ∧ s192 268 10 ≤ 240 := by rw [ex207]; exact q196
        have V82 : x207 = s_4 268 9 := by rw [ex207, E77, xU_j _ _ (by decide), E69, xU_k _ _ _ (by first | decide | omega), E56, xU_k _ _ _ (by first | decide | omega), E43, xU_k _ _ _ (by first | decide | omega)]
        refine x_iconst hx hb dX11_readsStep_85 ?_
        refine x_iadd hx hb dX11_readsStep_86 ?_
        refine x_put (j := 9) hx hb hown hT hE hW cls_X11 (by decide) (fun σ => so_268 h0 g σ) (by decide) (st_X11_9 h0 s192 268 (x207 + 1)) (ln_X11_9 h0 _ _) wq1194 rfl rfl rfl (by omega) dX11_readsStep_87 (fun H locs s208 es208 hW => ?_)
        have q209 : IMn s208 := by rw [es208]; exact IMn_268 q193 (by omega)
        have q210 : IMk s208 := by rw [es208]; exact IMk_268 q194 (by omega)
        have q211 : IMo s208 := by rw [es208]; exact IMo_o (by unfold suIMo; first | decide | omega) q195
        have q212 : IR s208 := by rw [es208]; exact IR_268 q196 (by omega)
        have q213 : s208 268 8 = s0 268 8 := (show s208 268 8 = s192 268 8 from by rw [es208, xU_j _ _ (by decide)]).trans q197
        have q214 : s208 268 58 = s0 268 58 := (show s208 268 58 = s192 268 58 from by rw [es208, xU_j _ _ (by decide)]).trans q198
        have q215 : s208 268 10 = s0 268 10 := (show s208 268 10 = s192 268 10 from by rw [es208, xU_j _ _ (by decide)]).trans q199
        have q216 : s208 268 34 = s0 268 34 := (show s208 268 34 = s192 268 34 from by rw [es208, xU_j _ _ (by decide)]).trans q200
        have q217 : s208 268 17 = s0 268 17 := (show s208 268 17 = s192 268 17 from by rw [es208, xU_j _ _ (by decide)]).trans q201
        have q218 : s208 268 48 = s0 268 48 := (show s208 268 48 = s192 268 48 from by rw [es208, xU_j _ _ (by decide)]).trans q202
        have q219 : s208 268 35 = (x191 + 1) := (show s208 268 35 = s192 268 35 from by rw [es208, xU_j _ _ (by decide)]).trans q203
        have q220 : s208 268 36 = x141 := (show s208 268 36 = s192 268 36 from by rw [es208, xU_j _ _ (by decide)]).trans q204
        have q221 : s208 268 37 = x174 := (show s208 268 37 = s192 268 37 from by rw [es208, xU_j _ _ (by decide)]).trans q205
        have q222 : s208 268 9 = (x207 + 1) := by rw [es208, xU_s]
        have hF223 := hF206.put es208 (by omega)
        have E87 := es208
        have S87 : s208 290 = xud (s_4 290) (s_4 268 35) (s_4 268 36) ∧ s208 291 = xud (s_4 291) (s_4 268 35) (s_4 268 34) ∧ s208 292 = xud (s_4 292) (s_4 268 35) (s_4 268 37) := ⟨by rw [E87, xU_k _ _ _ (by first | decide | omega), E77, xU_k _ _ _ (by first | decide | omega), E69, xU_k _ _ _ (by first | decide | omega), E56, xU_k _ _ _ (by first | decide | omega), E43, xU_xud, V43.1, V43.2], by rw [E87, xU_k _ _ _ (by first | decide | omega), E77, xU_k _ _ _ (by first | decide | omega), E69, xU_k _ _ _ (by first | decide | omega), E56, xU_xud, E43, xU_k _ _ _ (by first | decide | omega), V56.1, V56.2], by rw [E87, xU_k _ _ _ (by first | decide | omega), E77, xU_k _ _ _ (by first | decide | omega), E69, xU_xud, E56, xU_k _ _ _ (by first | decide | omega), E43, xU_k _ _ _ (by first | decide | omega), V69.1, V69.2]⟩
        have S88 : s208 268 35 = s_4 268 35 + 1 ∧ s208 268 34 = s_4 268 34 ∧ s208 268 9 = s_4 268 9 + 1 := ⟨by rw [E87, xU_j _ _ (by decide), E77, xU_s]; omega, by rw [E87, xU_j _ _ (by decide), E77, xU_j _ _ (by decide), E69, xU_k _ _ _ (by first | decide | omega), E56, xU_k _ _ _ (by first | decide | omega), E43, xU_k _ _ _ (by first | decide | omega)], by rw [E87, xU_s]; omega⟩
        have O87 := zst_push (σ := s_4) (τ := s208) (by omega) S88.1 S87.1 S87.2.1 S87.2.2
        have R88 : zR0 s208 := v4_0.2.push S88.1 S87.1 (by omega)
        have R87 : zRW s208 := v4_0.1.push ⟨S88.1, by omega⟩ S88.2.1 S87.2.1 S87.2.2 (by omega)
        have Z87 : zWY (xm8 (s0 276)) (s0 268 10) Z true (s208 268 9) (s208 268 34) (s208 289) (zst s208) := by
          rw [O87, S88.2.1, show s208 289 = s_4 289 from by rw [E87, xU_k _ _ _ (by first | decide | omega), E77, xU_k _ _ _ (by first | decide | omega), E69, xU_k _ _ _ (by first | decide | omega), E56, xU_k _ _ _ (by first | decide | omega), E43, xU_k _ _ _ (by first | decide | omega)]]
          exact v4_1.open_ (by omega) v4_2.2 v4_2.1 (by omega) (by omega) S88.2.2
        have G87 : s208 276 = s0 276 := hF223 276 (by first | decide | omega)
        have N87 : s208 268 10 = s0 268 10 := q215
        refine x_aload_n hx hb hl 0 rfl dX11_readsStep_90 rfl ?_
        refine x_gov (x_runV (As := []) hx hb hml hown hT hE hW hl.1 (Or.inl (by decide)) (so_268 h0 g _) rfl cf_X11_readsTimes wq1450 wq113 wq1448 (c_X11_readsTimesW l D g T h0 s208 hW.2.1 q209 q210 q211 q212) ⟨rfl, rfl, ⟨by decide, by decide⟩, ⟨by decide, by decide⟩⟩ rfl rfl (Nat.le_of_ble_eq_true rfl) dX11_readsStep_91) hW (fun s225 H locs hp226 hW => ?_)
        obtain ⟨fs225, hp226⟩ := hp226
        have hF227 := hF223.call fs225 (fun k h => by omega)
        have ghp226 := hp226.2
        have A91 : (zRW s225 ∧ zR0 s225) ∧ zWY (xm8 (s0 276)) (s0 268 10) Z true (s225 268 36) (s225 268 34) (s225 289) (zst s225) ∧ (s225 268 37 = wtm (zch (xm8 (s0 276)) (s0 268 10) (s225 268 36)) ∧ s225 268 9 = wp1 (xm8 (s0 276)) (s0 268 10) (s225 268 36)) := by
          obtain ⟨h1, h2, h3⟩ := ghp226
          rw [G87, N87] at h2 h3
          have k5 : s225 268 35 = s208 268 35 := by omega
          have k4 : s225 268 34 = s208 268 34 := by omega
          have b5 := R87.2.1
          have b4 := R87.1
          refine ⟨⟨R87.f ⟨by omega, by omega⟩ ⟨by omega, by omega⟩ (fs225 291 (by first | decide | omega)) (fs225 292 (by first | decide | omega)), R88.f (by omega) (fs225 290 (by first | decide | omega))⟩, ?_, ?_⟩
          · rw [zst_f k5 (fs225 290 (by first | decide | omega)) (fs225 291 (by first | decide | omega)) (fs225 292 (by first | decide | omega)), h1, k4, fs225 289 (by first | decide | omega)]; exact Z87
          · rw [h1]; exact ⟨h2, h3⟩
        have H91 := ghp226
        have P91 := wp1_cs (xm8 (s0 276)) (s0 268 10) (s225 268 36)
        have Q91 := A91.2.2.2
        refine lv_goto (tgt := 4) hx hb dX11_readsStep_94 (by decide) ?_
        exact ih4 s225 H locs ls hF227 hp226.1.1 hp226.1.2.1 hp226.1.2.2.1 hp226.1.2.2.2.1 (hp226.1.2.2.2.2.1.trans q213) (hp226.1.2.2.2.2.2.1.trans q214) (hp226.1.2.2.2.2.2.2.1.trans q215) (hp226.1.2.2.2.2.2.2.2.1.trans q216) (hp226.1.2.2.2.2.2.2.2.2.2.1.trans q217) (hp226.1.2.2.2.2.2.2.2.2.2.2.1.trans q218) (A91.1) (A91.2.1) (A91.2.2) (by omega) (by have hm := hm_4 (); omega) hW (lv_sub hl [0] rfl)
      refine x_aload_n hx hb hl 0 rfl dX11_readsStep_21 rfl ?_
      refine x_iconst hx hb dX11_readsStep_22 ?_
      refine x_aload_n hx hb hl 0 rfl dX11_readsStep_23 rfl ?_
      refine x_get (j := 9) (v := .int (xJ (s_4 268 9))) hx hb hown hT hE hW cls_X11 (Or.inl (by decide)) (so_268 h0 g _) (by decide) rfl wq1194 dX11_readsStep_24 ?_
      refine x_rd hW (fun x228 ex228 rx228 => ?_)
      have bx228 : 0 ≤ x228 ∧ x228 ≤ s_4 268 10 ∧ s_4 268 10 ≤ 240 := by rw [ex228]; exact q4_3
      refine x_goi (x_runV (As := [.int (xJ 5), .int (xJ x228)]) hx hb hml hown hT hE hW hl.1 (Or.inl (by decide)) (so_268 h0 g _) rfl cf_X11_wrongAt wq1401 wq107 wq1399 (c_X11_wrongAtW l D g T h0 s_4 hW.2.1 5 (by decide) x228 rx228 (by omega) q4_0 q4_1 q4_2 q4_3) ⟨rfl, rfl, ⟨by decide, by decide⟩, ⟨by decide, by decide⟩⟩ rfl rfl (Nat.le_of_ble_eq_true rfl) dX11_readsStep_27) hW (fun x229 s230 H locs rx229 hp231 hW => ?_)
      obtain ⟨fs230, hp231⟩ := hp231
      have hF232 := hF_4.call fs230 (fun k h => by omega)
      have ghp231 := hp231.2
      rw [eQ]
      exact x_zret hx hb hr hlk hW (by omega) ⟨hF232, ⟨hp231.1.1, hp231.1.2.1, hp231.1.2.2.1, hp231.1.2.2.2.1, (hp231.1.2.2.2.2.1.trans q4_4), (hp231.1.2.2.2.2.2.1.trans q4_5), (hp231.1.2.2.2.2.2.2.1.trans q4_6), (hp231.1.2.2.2.2.2.2.2.2.2.2.2.2.1.trans q4_9), (hp231.1.2.2.2.2.2.2.2.2.2.2.2.2.2.1.trans q4_10), trivial⟩, by
          have z := v4_1.x.five (p1 := s_4 268 9) (by omega) v4_2.2 (by omega) (by omega)
          exact Or.inl ⟨by omega, by omega, by omega, by omega⟩⟩ dX11_readsStep_30
  exact L4 ((241 - s2 268 9 : Int).toNat + 1) s2 H locs ls hF4 hp3.1.1 hp3.1.2.1 hp3.1.2.2.1 hp3.1.2.2.2.1 (hp3.1.2.2.2.2.1.trans k268_8) (hp3.1.2.2.2.2.2.1.trans k268_58) (hp3.1.2.2.2.2.2.2.1.trans k268_10) (hp3.1.2.2.2.2.2.2.2.1.trans k268_34) (hp3.1.2.2.2.2.2.2.2.2.2.1.trans k268_17) (hp3.1.2.2.2.2.2.2.2.2.2.2.1.trans k268_48) (A1.1) (A1.2.1) (A1.2.2) (by omega) (Nat.lt_succ_self _) hW (lv_sub hl [0] rfl)


