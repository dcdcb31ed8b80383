set_option maxHeartbeats 4000000 in
set_option maxRecDepth 100000 in
theorem c_X11_repeatsJ (l : Launch) (D : va_G) (g : xG) (T : Nat × Nat × Nat) (h0 : Nat) (s0 : xS) (hσ : xRR s0) (a : Int) (ra : xR a) (b : Int) (rb : xR b) (q : Int) (rq : xR q) (ha0 : 0 ≤ a ∧ a ≤ s0 268 34 ∧ s0 268 34 ≤ 60) (hb0 : 1 ≤ b ∧ b ≤ 9) (hq0 : 0 ≤ q ∧ q ≤ 300) (hb8 : ∀ q : Int, 0 ≤ q → q < s0 268 34 → 0 ≤ s0 289 q ∧ s0 289 q ≤ 8) (p0 : IMn s0) (p1 : IMk s0) (p2 : IMo s0) (p3 : IR s0) : Met l yX11_repeats (xws yX11_repeats cX11_repeats 6 (some .boolean)) { frames := 1, cells := 0, slots := 0, locals := 22 } (xP [.ref (h0 + 268), .int (xJ a), .int (xJ b), .int (xJ q)] D g T h0 s0) (xQi D g h0 (fun r τ => xFr (fun k => k = 268 ∨ k = 289) s0 τ ∧ (((IMn τ) ∧ (IMk τ) ∧ (IMo τ) ∧ (IR τ) ∧ (τ 268 8 = s0 268 8) ∧ (τ 268 58 = s0 268 58) ∧ (τ 268 10 = s0 268 10) ∧ (τ 268 9 = s0 268 9) ∧ (τ 268 35 = s0 268 35) ∧ (τ 268 36 = s0 268 36) ∧ (τ 268 37 = s0 268 37) ∧ True) ∧ ((r = 1 ∧ s0 268 34 + (b - 1) * (s0 268 34 - a) ≤ 60 ∧ τ 268 34 = s0 268 34 + (b - 1) * (s0 268 34 - a) ∧ τ 289 = wrep (s0 289) a (s0 268 34) ((b - 1) * (s0 268 34 - a))) ∨ (r = 0 ∧ 60 < s0 268 34 + (b - 1) * (s0 268 34 - a) ∧ τ 268 34 = s0 268 34 ∧ τ 268 11 = -6000 - q))))) 0 0 (xA h0) := by
  refine x_met hσ (by decide) (Nat.le_of_ble_eq_true rfl) ?_
  intro p e s m args below meth c hx hb hr hml hown hT hlk hnm hE hW ls hl
  have hl : lv_has ls 6 [(0, .ref (h0 + 268)), (1, .int (xJ a)), (2, .int (xJ b)), (3, .int (xJ q))] := hl
  obtain ⟨Q, eQ⟩ : ∃ Q, Q = MQ below (xQi D g h0 (fun r τ => xFr (fun k => k = 268 ∨ k = 289) s0 τ ∧ (((IMn τ) ∧ (IMk τ) ∧ (IMo τ) ∧ (IR τ) ∧ (τ 268 8 = s0 268 8) ∧ (τ 268 58 = s0 268 58) ∧ (τ 268 10 = s0 268 10) ∧ (τ 268 9 = s0 268 9) ∧ (τ 268 35 = s0 268 35) ∧ (τ 268 36 = s0 268 36) ∧ (τ 268 37 = s0 268 37) ∧ True) ∧ ((r = 1 ∧ s0 268 34 + (b - 1) * (s0 268 34 - a) ≤ 60 ∧ τ 268 34 = s0 268 34 + (b - 1) * (s0 268 34 - a) ∧ τ 289 = wrep (s0 289) a (s0 268 34) ((b - 1) * (s0 268 34 - a))) ∨ (r = 0 ∧ 60 < s0 268 34 + (b - 1) * (s0 268 34 - a) ∧ τ 268 34 = s0 268 34 ∧ τ 268 11 = -6000 - q))))) args s 0 0 (xA h0) := ⟨_, rfl⟩
  rw [← eQ]
  generalize hHe : ([] : List Loc) = locs at hW ⊢
  obtain ⟨H, eH⟩ : ∃ H, H = s.heap := ⟨_, rfl⟩
  rw [← eH] at hW ⊢
  have hF : xFr (fun k => k = 268 ∨ k = 289) s0 s0 := xFr.rf
  have k268_8 : s0 268 8 = s0 268 8 := rfl
  have k268_58 : s0 268 58 = s0 268 58 := rfl
  have k268_10 : s0 268 10 = s0 268 10 := rfl
  have k268_9 : s0 268 9 = s0 268 9 := rfl
  have k268_35 : s0 268 35 = s0 268 35 := rfl
  have k268_36 : s0 268 36 = s0 268 36 := rfl
  have k268_37 : s0 268 37 = s0 268 37 := rfl
  have k268_34 : s0 268 34 = s0 268 34 := rfl
  refine x_aload_n hx hb hl 0 rfl dX11_repeats_0 rfl ?_
  refine x_get (j := 34) (v := .int (xJ (s0 268 34))) hx hb hown hT hE hW cls_X11 (Or.inl (by decide)) (so_268 h0 g _) (by decide) rfl wq1219 dX11_repeats_1 ?_
  refine x_rd hW (fun x1 ex1 rx1 => ?_)
  have fx1 : x1 = s0 268 34 := ex1.trans k268_34
  refine x_iload_n hx hb hl 1 rfl dX11_repeats_4 rfl ?_
  refine x_isub hx hb dX11_repeats_5 ?_
  refine x_nm (fun x2 ex2 => ?_)
  refine lv_istore (lv' := [(4, .int (xJ x2)), (0, .ref (h0 + 268)), (1, .int (xJ a)), (2, .int (xJ b)), (3, .int (xJ q))]) hx hb dX11_repeats_6 hl (by decide) rfl (fun ls hl => ?_)
  have X6 : x2 = s0 268 34 - a := by omega
  have Y6 : x2 * b = (b - 1) * (s0 268 34 - a) + (s0 268 34 - a) := by rw [X6]; exact wmul2 _ _ _
  have m6 := xmulb (by omega : -1 ≤ b ∧ b ≤ 9) (by omega : -60 ≤ x2 ∧ x2 ≤ 60)
  rw [Int.mul_comm] at m6
  have n6 : 0 ≤ (b - 1) * (s0 268 34 - a) := Int.mul_nonneg (by omega) (by omega)
  refine x_iload_n hx hb hl 2 rfl dX11_repeats_8 rfl ?_
  refine x_iload hx hb hl 0 rfl dX11_repeats_9 ?_
  refine x_iload_n hx hb hl 3 rfl dX11_repeats_11 rfl ?_
  refine x_imul hx hb dX11_repeats_12 ?_
  refine x_iadd hx hb dX11_repeats_13 ?_
  refine x_bipush hx hb dX11_repeats_14 (by decide) ?_
  refine x_icmp_le (tgt := 27) hx hb (by omega) (by decide) dX11_repeats_16 (by decide) (fun c3 => ?_) (fun c3 => ?_)
  · skip
    refine x_iload hx hb hl 0 rfl dX11_repeats_27 ?_
    refine lv_istore (lv' := [(5, .int (xJ x2)), (4, .int (xJ x2)), (0, .ref (h0 + 268)), (1, .int (xJ a)), (2, .int (xJ b)), (3, .int (xJ q))]) hx hb dX11_repeats_29 hl (by decide) rfl (fun ls hl => ?_)
    have L31 : ∀ (fu : Nat) (i5_31 : Int) (s_31 : xS) (H : Heap) (locs : List Loc) (ls : Array Slot), (xR i5_31) → (xFr (fun k => k = 268 ∨ k = 289) s0 s_31) → (IMn s_31) → (IMk s_31) → (IMo s_31) → (IR s_31) → (s_31 268 8 = s0 268 8) → (s_31 268 58 = s0 268 58) → (s_31 268 10 = s0 268 10) → (s_31 268 9 = s0 268 9) → (s_31 268 35 = s0 268 35) → (s_31 268 36 = s0 268 36) → (s_31 268 37 = s0 268 37) → (s_31 268 34 = s0 268 34) → (x2 ≤ i5_31) → (s_31 289 = wrep (s0 289) a (s0 268 34) (i5_31 - x2)) → (i5_31 ≤ x2 * b) → (x2 * b - i5_31).toNat < fu → xW D g h0 s H locs s_31 → lv_has ls 6 [(0, .ref (h0 + 268)), (1, .int (xJ a)), (2, .int (xJ b)), (4, .int (xJ x2)), (5, .int (xJ i5_31))] → W p l e { frames := 1, cells := 0, slots := 0, locals := 22 } s m args below meth c H locs 0 0 Q (F0 m 31 ls []) := by
      intro fu
      induction fu with
      | zero => intro i5_31 s_31 H locs ls ri5_31 hF_31 q31_0 q31_1 q31_2 q31_3 q31_4 q31_5 q31_6 q31_7 q31_8 q31_9 q31_10 q31_11 v31_0 v31_1 v31_2 hm; exact absurd hm (Nat.not_lt_zero _)
      | succ fu ih31 =>
        intro i5_31 s_31 H locs ls ri5_31 hF_31 q31_0 q31_1 q31_2 q31_3 q31_4 q31_5 q31_6 q31_7 q31_8 q31_9 q31_10 q31_11 v31_0 v31_1 v31_2 hm hW hl
        have hm_31 := fun (_ : Unit) => hm
        clear hm
        refine x_iload hx hb hl 4 rfl dX11_repeats_31 ?_
        refine x_iload hx hb hl 3 rfl dX11_repeats_33 ?_
        refine x_iload_n hx hb hl 2 rfl dX11_repeats_35 rfl ?_
        refine x_imul hx hb dX11_repeats_36 ?_
        refine x_icmp_ge (tgt := 67) hx hb ri5_31 (by omega) dX11_repeats_37 (by decide) (fun c4 => ?_) (fun c4 => ?_)
        · skip
          refine x_aload_n hx hb hl 0 rfl dX11_repeats_67 rfl ?_
          refine x_iload_n hx hb hl 1 rfl dX11_repeats_68 rfl ?_
          refine x_iload hx hb hl 3 rfl dX11_repeats_69 ?_
          refine x_iload_n hx hb hl 2 rfl dX11_repeats_71 rfl ?_
          refine x_imul hx hb dX11_repeats_72 ?_
          refine x_iadd hx hb dX11_repeats_73 ?_
          refine x_put (j := 34) hx hb hown hT hE hW cls_X11 (by decide) (fun σ => so_268 h0 g σ) (by decide) (st_X11_34 h0 s_31 268 (a + (x2 * b))) (ln_X11_34 h0 _ _) wq1219 rfl rfl rfl (by omega) dX11_repeats_74 (fun H locs s5 es5 hW => ?_)
          have q6 : IMn s5 := by rw [es5]; exact IMn_268 q31_0 (by omega)
          have q7 : IMk s5 := by rw [es5]; exact IMk_268 q31_1 (by omega)
          have q8 : IMo s5 := by rw [es5]; exact IMo_o (by unfold suIMo; first | decide | omega) q31_2
          have q9 : IR s5 := by rw [es5]; exact IR_268 q31_3 (by omega)
          have q10 : s5 268 8 = s0 268 8 := (show s5 268 8 = s_31 268 8 from by rw [es5, xU_j _ _ (by decide)]).trans q31_4
          have q11 : s5 268 58 = s0 268 58 := (show s5 268 58 = s_31 268 58 from by rw [es5, xU_j _ _ (by decide)]).trans q31_5
          have q12 : s5 268 10 = s0 268 10 := (show s5 268 10 = s_31 268 10 from by rw [es5, xU_j _ _ (by decide)]).trans q31_6
          have q13 : s5 268 9 = s0 268 9 := (show s5 268 9 = s_31 268 9 from by rw [es5, xU_j _ _ (by decide)]).trans q31_7
          have q14 : s5 268 35 = s0 268 35 := (show s5 268 35 = s_31 268 35 from by rw [es5, xU_j _ _ (by decide)]).trans q31_8
          have q15 : s5 268 36 = s0 268 36 := (show s5 268 36 = s_31 268 36 from by rw [es5, xU_j _ _ (by decide)]).trans q31_9
          have q16 : s5 268 37 = s0 268 37 := (show s5 268 37 = s_31 268 37 from by rw [es5, xU_j _ _ (by decide)]).trans q31_10
          have q17 : s5 268 34 = (a + (x2 * b)) := by rw [es5, xU_s]
          have hF18 := hF_31.put es5 (by omega)
          have E74 := es5
          refine x_iconst hx hb dX11_repeats_77 ?_
          rw [eQ]
          exact x_zret hx hb hr hlk hW (by omega) ⟨hF18, ⟨q6, q7, q8, q9, q10, q11, q12, q13, q14, q15, q16, trivial⟩, Or.inl ⟨by omega, by omega, by omega, by rw [E74, xU_k _ _ _ (by first | decide | omega)]; exact v31_1.trans (wrep_c (by omega))⟩⟩ dX11_repeats_78
        refine x_aload_n hx hb hl 0 rfl dX11_repeats_40 rfl ?_
        refine x_get (j := 30) (v := .ref (h0 + 289)) hx hb hown hT hE hW cls_X11 (Or.inl (by decide)) (so_268 h0 g _) (by decide) rfl wq1215 dX11_repeats_41 ?_
        refine x_iload_n hx hb hl 1 rfl dX11_repeats_44 rfl ?_
        refine x_iload hx hb hl 4 rfl dX11_repeats_45 ?_
        refine x_iadd hx hb dX11_repeats_47 ?_
        have p47 : 0 < x2 := by
          rcases Int.lt_or_le 0 x2 with h | h
          · exact h
          · have e : x2 = 0 := by omega
            have e0 : x2 * b = 0 := by rw [e, Int.zero_mul]
            omega
        refine x_aload_n hx hb hl 0 rfl dX11_repeats_48 rfl ?_
        refine x_get (j := 30) (v := .ref (h0 + 289)) hx hb hown hT hE hW cls_X11 (Or.inl (by decide)) (so_268 h0 g _) (by decide) rfl wq1215 dX11_repeats_49 ?_
        refine x_iload_n hx hb hl 1 rfl dX11_repeats_52 rfl ?_
        refine x_iload hx hb hl 4 rfl dX11_repeats_53 ?_
        refine x_iadd hx hb dX11_repeats_55 ?_
        refine x_iload hx hb hl 3 rfl dX11_repeats_56 ?_
        refine x_isub hx hb dX11_repeats_58 ?_
        refine x_bald hx hb hE hW (Or.inl (by decide)) (sa_289 h0 g _) (by omega) (by decide) dX11_repeats_59 ?_
        refine x_rd hW (fun x19 ex19 rx19 => ?_)
        have V59 : x19 = s_31 289 (a + (i5_31 - x2)) := ex19.trans (congrArg (s_31 289) (by omega))
        have R59 : 0 ≤ x19 ∧ x19 ≤ 8 := by
          rw [V59, v31_1, wrep_at (by omega) (by omega)]
          have q := Int.emod_nonneg (i5_31 - x2) (show s0 268 34 - a ≠ 0 from by omega)
          have q2 := Int.emod_lt_of_pos (i5_31 - x2) (show 0 < s0 268 34 - a from by omega)
          exact hb8 _ (by omega) (by omega)
        obtain ⟨y21, ey21, ry21, my21, by21⟩ := xnbm (v := x19) rx19
        refine x_bast (w := y21) hx hb hE hW (by decide) (fun σ => sa_289 h0 g σ) (by omega) (by decide) ey21 ry21 dX11_repeats_60 (fun H locs s20 es20 hW => ?_)
        have q22 : IMn s20 := by rw [es20]; exact IMn_o (by unfold suIMn; first | decide | omega) q31_0
        have q23 : IMk s20 := by rw [es20]; exact IMk_o (by unfold suIMk; first | decide | omega) q31_1
        have q24 : IMo s20 := by rw [es20]; exact IMo_o (by unfold suIMo; first | decide | omega) q31_2
        have q25 : IR s20 := by rw [es20]; exact IR_o (by unfold suIR; first | decide | omega) q31_3
        have q26 : s20 268 8 = s0 268 8 := (show s20 268 8 = s_31 268 8 from by rw [es20, xU_k _ _ _ (by first | decide | omega)]).trans q31_4
        have q27 : s20 268 58 = s0 268 58 := (show s20 268 58 = s_31 268 58 from by rw [es20, xU_k _ _ _ (by first | decide | omega)]).trans q31_5
        have q28 : s20 268 10 = s0 268 10 := (show s20 268 10 = s_31 268 10 from by rw [es20, xU_k _ _ _ (by first | decide | omega)]).trans q31_6
        have q29 : s20 268 9 = s0 268 9 := (show s20 268 9 = s_31 268 9 from by rw [es20, xU_k _ _ _ (by first | decide | omega)]).trans q31_7
        have q30 : s20 268 35 = s0 268 35 := (show s20 268 35 = s_31 268 35 from by rw [es20, xU_k _ _ _ (by first | decide | omega)]).trans q31_8
        have q31 : s20 268 36 = s0 268 36 := (show s20 268 36 = s_31 268 36 from by rw [es20, xU_k _ _ _ (by first | decide | omega)]).trans q31_9
        have q32 : s20 268 37 = s0 268 37 := (show s20 268 37 = s_31 268 37 from by rw [es20, xU_k _ _ _ (by first | decide | omega)]).trans q31_10
        have q33 : s20 268 34 = s0 268 34 := (show s20 268 34 = s_31 268 34 from by rw [es20, xU_k _ _ _ (by first | decide | omega)]).trans q31_11
        have hF34 := hF_31.put es20 (by omega)
        have A60 : s20 289 = wrep (s0 289) a (s0 268 34) (i5_31 - x2 + 1) := by
          rw [es20, xU_xud]
          exact wrep_s v31_1 (by omega) (by omega) (by omega) (by omega) rfl
        refine x_iinc (lv' := [(5, .int (xJ (i5_31 + 1))), (0, .ref (h0 + 268)), (1, .int (xJ a)), (2, .int (xJ b)), (4, .int (xJ x2))]) hx hb hl 4 rfl dX11_repeats_61 (by decide) rfl (fun ls hl => ?_)
        refine lv_goto (tgt := 31) hx hb dX11_repeats_64 (by decide) ?_
        exact ih31 (i5_31 + 1) s20 H locs ls (by omega) hF34 q22 q23 q24 q25 q26 q27 q28 q29 q30 q31 q32 q33 (by omega) (A60.trans (wrep_c (by omega))) (by omega) (by have hm := hm_31 (); omega) hW (lv_sub hl [1, 2, 3, 4, 0] rfl)
    exact L31 ((x2 * b - x2 : Int).toNat + 1) x2 s0 H locs ls (by omega) hF p0 p1 p2 p3 k268_8 k268_58 k268_10 k268_9 k268_35 k268_36 k268_37 k268_34 (by omega) ((wrep_0 _ _ _ (by omega)).symm) (by omega) (Nat.lt_succ_self _) hW (lv_sub hl [2, 3, 4, 1, 0] rfl)
  refine x_aload_n hx hb hl 1 rfl dX11_repeats_19 rfl ?_
  refine x_bipush hx hb dX11_repeats_20 (by decide) ?_
  refine x_iload_n hx hb hl 4 rfl dX11_repeats_22 rfl ?_
  refine x_goi (x_runV (As := [.int (xJ 6), .int (xJ q)]) hx hb hml hown hT hE hW hl.1 (Or.inl (by decide)) (so_268 h0 g _) rfl cf_X11_wrongAt wq1401 wq107 wq1399 (c_X11_wrongAtW l D g T h0 s0 hW.2.1 6 (by decide) q rq (by omega) p0 p1 p2 p3) ⟨rfl, rfl, ⟨by decide, by decide⟩, ⟨by decide, by decide⟩⟩ rfl rfl (Nat.le_of_ble_eq_true rfl) dX11_repeats_23) hW (fun x35 s36 H locs rx35 hp37 hW => ?_)
  obtain ⟨fs36, hp37⟩ := hp37
  have hF38 := hF.call fs36 (fun k h => by omega)
  have ghp37 := hp37.2
  rw [eQ]
  exact x_zret hx hb hr hlk hW (by omega) ⟨hF38, ⟨hp37.1.1, hp37.1.2.1, hp37.1.2.2.1, hp37.1.2.2.2.1, (hp37.1.2.2.2.2.1.trans k268_8), (hp37.1.2.2.2.2.2.1.trans k268_58), (hp37.1.2.2.2.2.2.2.1.trans k268_10), (hp37.1.2.2.2.2.2.2.2.1.trans k268_9), (hp37.1.2.2.2.2.2.2.2.2.2.1.trans k268_35), (hp37.1.2.2.2.2.2.2.2.2.2.2.1.trans k268_36), (hp37.1.2.2.2.2.2.2.2.2.2.2.2.1.trans k268_37), trivial⟩, Or.inr ⟨by omega, by omega, by omega, by omega⟩⟩ dX11_repeats_26
set_option maxHeartbeats 4000000 in
set_option maxRecDepth 100000 in
theorem c_X11_readsStepJ (l : Launch) (D : va_G) (g : xG) (T : Nat × Nat × Nat) (h0 : Nat) (s0 : xS) (hσ : xRR s0) (Z : Int × Int × (Int → Int)) (hrw : zRW s0) (hr0 : zR0 s0) (hz : zWY (xm8 (s0 276)) (s0 268 10) Z true (s0 268 9) (s0 268 34) (s0 289) (zst s0)) (p0 : IMn s0) (p1 : IMk s0) (p2 : IMo s0) (p3 : IR s0) : Met l yX11_readsStep (xws yX11_readsStep cX11_readsStep 4 (some .boolean)) { frames := 2, cells := 0, slots := 0, locals := 47 } (xP [.ref (h0 + 268)] D g T h0 s0) (xQi D g h0 (fun r τ => xFr (fun k => k = 268 ∨ k = 289 ∨ k = 290 ∨ k = 291 ∨ k = 292) s0 τ ∧ (((IMn τ) ∧ (IMk τ) ∧ (IMo τ) ∧ (IR τ) ∧ (τ 268 8 = s0 268 8) ∧ (τ 268 58 = s0 268 58) ∧ (τ 268 10 = s0 268 10) ∧ True) ∧ ((r = 0 ∧ s0 268 9 ≤ τ 268 9 ∧ Z.1 ≠ 0 ∧ τ 268 11 = Z.1) ∨ (r = 1 ∧ zRW τ ∧ zR0 τ ∧ s0 268 9 + 1 ≤ τ 268 9 ∧ zWY (xm8 (s0 276)) (s0 268 10) Z false (τ 268 9) (τ 268 34) (τ 289) (zst τ) ∧ (zch (xm8 (s0 276)) (s0 268 10) (τ 268 9) ≠ 41 ∨ τ 268 35 = 0)))))) 0 0 (xA h0) := by
  refine x_met hσ (by decide) (Nat.le_of_ble_eq_true rfl) ?_
  intro p e s m args below meth c hx hb hr hml hown hT hlk hnm hE hW ls hl
  have hl : lv_has ls 4 [(0, .ref (h0 + 268))] := hl
  obtain ⟨Q, eQ⟩ : ∃ Q, Q = MQ below (xQi D g h0 (fun r τ => xFr (fun k => k = 268 ∨ k = 289 ∨ k = 290 ∨ k = 291 ∨ k = 292) s0 τ ∧ (((IMn τ) ∧ (IMk τ) ∧ (IMo τ) ∧ (IR τ) ∧ (τ 268 8 = s0 268 8) ∧ (τ 268 58 = s0 268 58) ∧ (τ 268 10 = s0 268 10) ∧ True) ∧ ((r = 0 ∧ s0 268 9 ≤ τ 268 9 ∧ Z.1 ≠ 0 ∧ τ 268 11 = Z.1) ∨ (r = 1 ∧ zRW τ ∧ zR0 τ ∧ s0 268 9 + 1 ≤ τ 268 9 ∧ zWY (xm8 (s0 276)) (s0 268 10) Z false (τ 268 9) (τ 268 34) (τ 289) (zst τ) ∧ (zch (xm8 (s0 276)) (s0 268 10) (τ 268 9) ≠ 41 ∨ τ 268 35 = 0)))))) args s 0 0 (xA h0) := ⟨_, rfl⟩
  rw [← eQ]
  generalize hHe : ([] : List Loc) = locs at hW ⊢
  obtain ⟨H, eH⟩ : ∃ H, H = s.heap := ⟨_, rfl⟩
  rw [← eH] at hW ⊢
  have hF : xFr (fun k => k = 268 ∨ k = 289 ∨ k = 290 ∨ k = 291 ∨ k = 292) s0 s0 := xFr.rf
  have k268_8 : s0 268 8 = s0 268 8 := rfl
  have k268_58 : s0 268 58 = s0 268 58 := rfl
  have k268_10 : s0 268 10 = s0 268 10 := rfl
  have k268_9 : s0 268 9 = s0 268 9 := rfl
  have k268_34 : s0 268 34 = s0 268 34 := rfl
  have k268_35 : s0 268 35 = s0 268 35 := rfl
  have rw5 := hrw.2.1
  have rw4 := hrw.1
  have hr00 : 0 ≤ s0 268 9 ∧ s0 268 9 ≤ s0 268 10 ∧ s0 268 10 ≤ 240 := p3
  refine x_aload_n hx hb hl 0 rfl dX11_readsStep_0 rfl ?_
  refine x_gov (x_runV (As := []) hx hb hml hown hT hE hW hl.1 (Or.inl (by decide)) (so_268 h0 g _) rfl cf_X11_readsTimes wq1450 wq113 wq1448 (c_X11_readsTimesW l D g T h0 s0 hW.2.1 p0 p1 p2 p3) ⟨rfl, rfl, ⟨by decide, by decide⟩, ⟨by decide, by decide⟩⟩ rfl rfl (Nat.le_of_ble_eq_true rfl) dX11_readsStep_1) hW (fun s2 H locs hp3 hW => ?_)
  obtain ⟨fs2, hp3⟩ := hp3
  have hF4 := hF.call fs2 (fun k h => by omega)
  have ghp3 := hp3.2
  have A1 : (zRW s2 ∧ zR0 s2) ∧ zWY (xm8 (s0 276)) (s0 268 10) Z true (s2 268 36) (s2 268 34) (s2 289) (zst s2) ∧ (s2 268 37 = wtm (zch (xm8 (s0 276)) (s0 268 10) (s2 268 36)) ∧ s2 268 9 = wp1 (xm8 (s0 276)) (s0 268 10) (s2 268 36)) := by
    obtain ⟨h1, h2, h3⟩ := ghp3
    refine ⟨⟨hrw.f ⟨by omega, by omega⟩ ⟨by omega, by omega⟩ (fs2 291 (by first | decide | omega)) (fs2 292 (by first | decide | omega)), hr0.f (by omega) (fs2 290 (by first | decide | omega))⟩, ?_, ?_⟩
    · rw [zst_f (hp3.1.2.2.2.2.2.2.2.2.1.trans k268_35) (fs2 290 (by first | decide | omega)) (fs2 291 (by first | decide | omega)) (fs2 292 (by first | decide | omega)), h1, (hp3.1.2.2.2.2.2.2.2.1.trans k268_34), fs2 289 (by first | decide | omega)]; exact hz
    · rw [h1]; exact ⟨h2, h3⟩
  have H1 := ghp3
  have L4 : ∀ (fu : Nat) (s_4 : xS) (H : Heap) (locs : List Loc) (ls : Array Slot), (xFr (fun k => k = 268 ∨ k = 289 ∨ k = 290 ∨ k = 291 ∨ k = 292) s0 s_4) → (IMn s_4) → (IMk s_4) → (IMo s_4) → (IR s_4) → (s_4 268 8 = s0 268 8) → (s_4 268 58 = s0 268 58) → (s_4 268 10 = s0 268 10) → (s_4 268 34 = s0 268 34) → (zRW s_4 ∧ zR0 s_4) → (zWY (xm8 (s0 276)) (s0 268 10) Z true (s_4 268 36) (s_4 268 34) (s_4 289) (zst s_4)) → (s_4 268 37 = wtm (zch (xm8 (s0 276)) (s0 268 10) (s_4 268 36)) ∧ s_4 268 9 = wp1 (xm8 (s0 276)) (s0 268 10) (s_4 268 36)) → (s0 268 9 ≤ s_4 268 36) → (241 - s_4 268 9).toNat < fu → xW D g h0 s H locs s_4 → lv_has ls 4 [(0, .ref (h0 + 268))] → W p l e { frames := 2, cells := 0, slots := 0, locals := 47 } s m args below meth c H locs 0 0 Q (F0 m 4 ls []) := by
    intro fu
    induction fu with
    | zero => intro s_4 H locs ls hF_4 q4_0 q4_1 q4_2 q4_3 q4_4 q4_5 q4_6 q4_7 v4_0 v4_1 v4_2 v4_3 hm; exact absurd hm (Nat.not_lt_zero _)
    | succ fu ih4 =>
      intro s_4 H locs ls hF_4 q4_0 q4_1 q4_2 q4_3 q4_4 q4_5 q4_6 q4_7 v4_0 v4_1 v4_2 v4_3 hm hW hl
      have hm_4 := fun (_ : Unit) => hm
      clear hm
      have r4 : 0 ≤ s_4 268 9 ∧ s_4 268 9 ≤ s_4 268 10 ∧ s_4 268 10 ≤ 240 := q4_3
      have w4 := v4_0.1.1
      have w5 := v4_0.1.2.1
      have L4 := zst_l (σ := s_4) w5
      have P4 := wp1_cs (xm8 (s0 276)) (s0 268 10) (s_4 268 36)
      have T4 := wtm_cs (zch (xm8 (s0 276)) (s0 268 10) (s_4 268 36))
      refine x_aload_n hx hb hl 0 rfl dX11_readsStep_4 rfl ?_
      refine x_goi (x_runV (As := []) hx hb hml hown hT hE hW hl.1 (Or.inl (by decide)) (so_268 h0 g _) rfl cf_X11_here wq1391 wq106 wq1389 (c_X11_here l D g T h0 s_4 hW.2.1 q4_0 q4_1 q4_2 q4_3) ⟨rfl, rfl, ⟨by decide, by decide⟩, ⟨by decide, by decide⟩⟩ rfl rfl (Nat.le_of_ble_eq_true rfl) dX11_readsStep_5) hW (fun x5 s6 H locs rx5 hp7 hW => ?_)
      obtain ⟨es6, hp7⟩ := hp7
      subst es6
      have ghp7 := hp7
      obtain ⟨c5, ec5⟩ : ∃ c : Int, c = x5 := ⟨_, rfl⟩
      have C5 : c5 = zch (xm8 (s0 276)) (s0 268 10) (s_4 268 9) := by rw [ec5, ← hF_4 276 (by first | decide | omega), ← q4_6]; exact ghp7.1
      have B5 := ghp7.2
      refine x_bipush hx hb dX11_readsStep_8 (by decide) ?_
      refine x_icmp_ne (tgt := 97) hx hb rx5 (by decide) dX11_readsStep_10 (by decide) (fun c8 => ?_) (fun c8 => ?_)
      · skip
        refine x_aload_n hx hb hl 0 rfl dX11_readsStep_97 rfl ?_
        refine x_get (j := 36) (v := .int (xJ (s_4 268 36))) hx hb hown hT hE hW cls_X11 (Or.inl (by decide)) (so_268 h0 g _) (by decide) rfl wq1221 dX11_readsStep_98 ?_
        refine x_rd hW (fun x9 ex9 rx9 => ?_)
        have q10 : s_4 268 36 = x9 := ex9.symm
        refine lv_istore_n (lv' := [(1, .int (xJ x9)), (0, .ref (h0 + 268))]) hx hb dX11_readsStep_101 rfl hl (by decide) rfl (fun ls hl => ?_)
        refine x_aload_n hx hb hl 1 rfl dX11_readsStep_102 rfl ?_
        refine x_get (j := 37) (v := .int (xJ (s_4 268 37))) hx hb hown hT hE hW cls_X11 (Or.inl (by decide)) (so_268 h0 g _) (by decide) rfl wq1222 dX11_readsStep_103 ?_
        refine x_rd hW (fun x11 ex11 rx11 => ?_)
        have q12 : s_4 268 37 = x11 := ex11.symm
        refine lv_istore_n (lv' := [(2, .int (xJ x11)), (1, .int (xJ x9)), (0, .ref (h0 + 268))]) hx hb dX11_readsStep_106 rfl hl (by decide) rfl (fun ls hl => ?_)
        refine x_aload_n hx hb hl 2 rfl dX11_readsStep_107 rfl ?_
        refine x_goi (x_runV (As := []) hx hb hml hown hT hE hW hl.1 (Or.inl (by decide)) (so_268 h0 g _) rfl cf_X11_here wq1391 wq106 wq1389 (c_X11_here l D g T h0 s_4 hW.2.1 q4_0 q4_1 q4_2 q4_3) ⟨rfl, rfl, ⟨by decide, by decide⟩, ⟨by decide, by decide⟩⟩ rfl rfl (Nat.le_of_ble_eq_true rfl) dX11_readsStep_108) hW (fun x13 s14 H locs rx13 hp15 hW => ?_)
        obtain ⟨es14, hp15⟩ := hp15
        subst es14
        have ghp15 := hp15
        obtain ⟨c108, ec108⟩ : ∃ c : Int, c = x13 := ⟨_, rfl⟩
        have C108 : c108 = zch (xm8 (s0 276)) (s0 268 10) (s_4 268 9) := by rw [ec108, ← hF_4 276 (by first | decide | omega), ← q4_6]; exact ghp15.1
        have B108 := ghp15.2
        have S108 := wst_cs c108
        refine x_goi (x_runS (As := [.int (xJ x13)]) hx hb hml hown hT hE hW hl.1 cf_X11_wayOf wq1453 wq1452 (c_X11_wayOfW l D g T h0 s_4 hW.2.1 x13 rx13) ⟨rfl, rfl, ⟨by decide, by decide⟩, ⟨by decide, by decide⟩⟩ rfl rfl (Nat.le_of_ble_eq_true rfl) dX11_readsStep_111) hW (fun x16 s17 H locs rx16 hp18 hW => ?_)
        obtain ⟨es17, hp18⟩ := hp18
        subst es17
        have ghp18 := hp18
        refine lv_istore_n (lv' := [(3, .int (xJ x16)), (2, .int (xJ x11)), (1, .int (xJ x9)), (0, .ref (h0 + 268))]) hx hb dX11_readsStep_114 rfl hl (by decide) rfl (fun ls hl => ?_)
        refine x_iload_n hx hb hl 0 rfl dX11_readsStep_115 rfl ?_
        refine x_iconst hx hb dX11_readsStep_116 ?_
        refine x_icmp_ne (tgt := 130) hx hb rx16 (by decide) dX11_readsStep_117 (by decide) (fun c19 => ?_) (fun c19 => ?_)
        · skip
          refine x_aload_n hx hb hl 3 rfl dX11_readsStep_130 rfl ?_
          refine x_aload_n hx hb hl 3 rfl dX11_readsStep_131 rfl ?_
          refine x_get (j := 9) (v := .int (xJ (s_4 268 9))) hx hb hown hT hE hW cls_X11 (Or.inl (by decide)) (so_268 h0 g _) (by decide) rfl wq1194 dX11_readsStep_132 ?_
          refine x_rd hW (fun x20 ex20 rx20 => ?_)
          have bx20 : 0 ≤ x20 ∧ x20 ≤ s_4 268 10 ∧ s_4 268 10 ≤ 240 := by rw [ex20]; exact q4_3
          refine x_iconst hx hb dX11_readsStep_135 ?_
          refine x_iadd hx hb dX11_readsStep_136 ?_
          refine x_put (j := 9) hx hb hown hT hE hW cls_X11 (by decide) (fun σ => so_268 h0 g σ) (by decide) (st_X11_9 h0 s_4 268 (x20 + 1)) (ln_X11_9 h0 _ _) wq1194 rfl rfl rfl (by omega) dX11_readsStep_137 (fun H locs s21 es21 hW => ?_)
          have q22 : IMn s21 := by rw [es21]; exact IMn_268 q4_0 (by omega)
          have q23 : IMk s21 := by rw [es21]; exact IMk_268 q4_1 (by omega)
          have q24 : IMo s21 := by rw [es21]; exact IMo_o (by unfold suIMo; first | decide | omega) q4_2
          have q25 : IR s21 := by rw [es21]; exact IR_268 q4_3 (by omega)
          have q26 : s21 268 8 = s0 268 8 := (show s21 268 8 = s_4 268 8 from by rw [es21, xU_j _ _ (by decide)]).trans q4_4
          have q27 : s21 268 58 = s0 268 58 := (show s21 268 58 = s_4 268 58 from by rw [es21, xU_j _ _ (by decide)]).trans q4_5
          have q28 : s21 268 10 = s0 268 10 := (show s21 268 10 = s_4 268 10 from by rw [es21, xU_j _ _ (by decide)]).trans q4_6
          have q29 : s21 268 34 = s0 268 34 := (show s21 268 34 = s_4 268 34 from by rw [es21, xU_j _ _ (by decide)]).trans q4_7
          have q30 : s21 268 36 = x9 := (show s21 268 36 = s_4 268 36 from by rw [es21, xU_j _ _ (by decide)]).trans q10
          have q31 : s21 268 37 = x11 := (show s21 268 37 = s_4 268 37 from by rw [es21, xU_j _ _ (by decide)]).trans q12
          have q32 : s21 268 9 = (x20 + 1) := by rw [es21, xU_s]
          have hF33 := hF_4.put es21 (by omega)
          have E137 := es21
          refine x_aload_n hx hb hl 3 rfl dX11_readsStep_140 rfl ?_
          refine x_get (j := 34) (v := .int (xJ (s21 268 34))) hx hb hown hT hE hW cls_X11 (Or.inl (by decide)) (so_268 h0 g _) (by decide) rfl wq1219 dX11_readsStep_141 ?_
          refine x_rd hW (fun x34 ex34 rx34 => ?_)
          have fx34 : x34 = s0 268 34 := ex34.trans q29
          refine x_iload_n hx hb hl 1 rfl dX11_readsStep_144 rfl ?_
          refine x_iadd hx hb dX11_readsStep_145 ?_
          refine x_bipush hx hb dX11_readsStep_146 (by decide) ?_
          refine x_icmp_le (tgt := 159) hx hb (by omega) (by decide) dX11_readsStep_148 (by decide) (fun c35 => ?_) (fun c35 => ?_)
          · skip
            refine x_aload_n hx hb hl 3 rfl dX11_readsStep_159 rfl ?_
            refine x_get (j := 30) (v := .ref (h0 + 289)) hx hb hown hT hE hW cls_X11 (Or.inl (by decide)) (so_268 h0 g _) (by decide) rfl wq1215 dX11_readsStep_160 ?_
            refine x_aload_n hx hb hl 3 rfl dX11_readsStep_163 rfl ?_
            refine x_get (j := 34) (v := .int (xJ (s21 268 34))) hx hb hown hT hE hW cls_X11 (Or.inl (by decide)) (so_268 h0 g _) (by decide) rfl wq1219 dX11_readsStep_164 ?_
            refine x_rd hW (fun x36 ex36 rx36 => ?_)
            have fx36 : x36 = s0 268 34 := ex36.trans q29
            refine x_iload_n hx hb hl 0 rfl dX11_readsStep_167 rfl ?_
            refine x_i2bm hx hb rx16 dX11_readsStep_168 (fun x37 rx37 mx37 bx37 => ?_)
            obtain ⟨y39, ey39, ry39, my39, by39⟩ := xnbm (v := x37) rx37
            refine x_bast (w := y39) hx hb hE hW (by decide) (fun σ => sa_289 h0 g σ) (by omega) (by decide) ey39 ry39 dX11_readsStep_169 (fun H locs s38 es38 hW => ?_)
            have q40 : IMn s38 := by rw [es38]; exact IMn_o (by unfold suIMn; first | decide | omega) q22
            have q41 : IMk s38 := by rw [es38]; exact IMk_o (by unfold suIMk; first | decide | omega) q23
            have q42 : IMo s38 := by rw [es38]; exact IMo_o (by unfold suIMo; first | decide | omega) q24
            have q43 : IR s38 := by rw [es38]; exact IR_o (by unfold suIR; first | decide | omega) q25
            have q44 : s38 268 8 = s0 268 8 := (show s38 268 8 = s21 268 8 from by rw [es38, xU_k _ _ _ (by first | decide | omega)]).trans q26
            have q45 : s38 268 58 = s0 268 58 := (show s38 268 58 = s21 268 58 from by rw [es38, xU_k _ _ _ (by first | decide | omega)]).trans q27
            have q46 : s38 268 10 = s0 268 10 := (show s38 268 10 = s21 268 10 from by rw [es38, xU_k _ _ _ (by first | decide | omega)]).trans q28
            have q47 : s38 268 34 = s0 268 34 := (show s38 268 34 = s21 268 34 from by rw [es38, xU_k _ _ _ (by first | decide | omega)]).trans q29
            have q48 : s38 268 36 = x9 := (show s38 268 36 = s21 268 36 from by rw [es38, xU_k _ _ _ (by first | decide | omega)]).trans q30
            have q49 : s38 268 37 = x11 := (show s38 268 37 = s21 268 37 from by rw [es38, xU_k _ _ _ (by first | decide | omega)]).trans q31
            have q50 : s38 268 9 = (x20 + 1) := (show s38 268 9 = s21 268 9 from by rw [es38, xU_k _ _ _ (by first | decide | omega)]).trans q32
            have hF51 := hF33.put es38 (by omega)
            have E169 := es38
            have A169 : s38 289 = xud (s_4 289) (s_4 268 34) (2 * wst c108) := by
              rw [es38, xU_xud, E137, xU_k _ _ _ (by first | decide | omega)]
              congr 1 <;> omega
            refine x_aload_n hx hb hl 3 rfl dX11_readsStep_170 rfl ?_
            refine x_aload_n hx hb hl 3 rfl dX11_readsStep_171 rfl ?_
            refine x_get (j := 34) (v := .int (xJ (s38 268 34))) hx hb hown hT hE hW cls_X11 (Or.inl (by decide)) (so_268 h0 g _) (by decide) rfl wq1219 dX11_readsStep_172 ?_
            refine x_rd hW (fun x52 ex52 rx52 => ?_)
            have fx52 : x52 = s0 268 34 := ex52.trans q47
            refine x_iconst hx hb dX11_readsStep_175 ?_
            refine x_iadd hx hb dX11_readsStep_176 ?_
            refine x_put (j := 34) hx hb hown hT hE hW cls_X11 (by decide) (fun σ => so_268 h0 g σ) (by decide) (st_X11_34 h0 s38 268 (x52 + 1)) (ln_X11_34 h0 _ _) wq1219 rfl rfl rfl (by omega) dX11_readsStep_177 (fun H locs s53 es53 hW => ?_)
            have q54 : IMn s53 := by rw [es53]; exact IMn_268 q40 (by omega)
            have q55 : IMk s53 := by rw [es53]; exact IMk_268 q41 (by omega)
            have q56 : IMo s53 := by rw [es53]; exact IMo_o (by unfold suIMo; first | decide | omega) q42
            have q57 : IR s53 := by rw [es53]; exact IR_268 q43 (by omega)
            have q58 : s53 268 8 = s0 268 8 := (show s53 268 8 = s38 268 8 from by rw [es53, xU_j _ _ (by decide)]).trans q44
            have q59 : s53 268 58 = s0 268 58 := (show s53 268 58 = s38 268 58 from by rw [es53, xU_j _ _ (by decide)]).trans q45
            have q60 : s53 268 10 = s0 268 10 := (show s53 268 10 = s38 268 10 from by rw [es53, xU_j _ _ (by decide)]).trans q46
            have q61 : s53 268 34 = (x52 + 1) := by rw [es53, xU_s]
            have q62 : s53 268 36 = x9 := (show s53 268 36 = s38 268 36 from by rw [es53, xU_j _ _ (by decide)]).trans q48
            have q63 : s53 268 37 = x11 := (show s53 268 37 = s38 268 37 from by rw [es53, xU_j _ _ (by decide)]).trans q49
            have q64 : s53 268 9 = (x20 + 1) := (show s53 268 9 = s38 268 9 from by rw [es53, xU_j _ _ (by decide)]).trans q50
            have hF65 := hF51.put es53 (by omega)
            have E177 := es53
            have Q177 : s53 290 = s_4 290 ∧ s53 291 = s_4 291 ∧ s53 292 = s_4 292 ∧ s53 268 35 = s_4 268 35 := ⟨by rw [E177, xU_k _ _ _ (by first | decide | omega), E169, xU_k _ _ _ (by first | decide | omega), E137, xU_k _ _ _ (by first | decide | omega)], by rw [E177, xU_k _ _ _ (by first | decide | omega), E169, xU_k _ _ _ (by first | decide | omega), E137, xU_k _ _ _ (by first | decide | omega)], by rw [E177, xU_k _ _ _ (by first | decide | omega), E169, xU_k _ _ _ (by first | decide | omega), E137, xU_k _ _ _ (by first | decide | omega)], by rw [E177, xU_j _ _ (by decide), E169, xU_k _ _ _ (by first | decide | omega), E137, xU_j _ _ (by decide)]⟩
            have Q178 : s53 268 34 = s_4 268 34 + 1 ∧ s53 268 9 = s_4 268 9 + 1 := ⟨by rw [E177, xU_s]; omega, by rw [E177, xU_j _ _ (by decide), E169, xU_k _ _ _ (by first | decide | omega), E137, xU_s]; omega⟩
            have Q289 : s53 289 = xud (s_4 289) (s_4 268 34) (2 * wst c108) := by rw [E177, xU_k _ _ _ (by first | decide | omega)]; exact A169
            refine x_aload_n hx hb hl 3 rfl dX11_readsStep_180 rfl ?_
            refine x_aload_n hx hb hl 3 rfl dX11_readsStep_181 rfl ?_
            refine x_get (j := 34) (v := .int (xJ (s53 268 34))) hx hb hown hT hE hW cls_X11 (Or.inl (by decide)) (so_268 h0 g _) (by decide) rfl wq1219 dX11_readsStep_182 ?_
            refine x_rd hW (fun x66 ex66 rx66 => ?_)
            have fx66 : x66 = (x52 + 1) := ex66.trans q61
            refine x_iconst hx hb dX11_readsStep_185 ?_
            refine x_isub hx hb dX11_readsStep_186 ?_
            obtain ⟨a186, ea186⟩ : ∃ a : Int, a = (x66 - 1) := ⟨_, rfl⟩
            refine x_iload_n hx hb hl 1 rfl dX11_readsStep_187 rfl ?_
            refine x_iload_n hx hb hl 2 rfl dX11_readsStep_188 rfl ?_
            refine x_goi (x_runV (As := [.int (xJ (x66 - 1)), .int (xJ x11), .int (xJ x9)]) hx hb hml hown hT hE hW hl.1 (Or.inl (by decide)) (so_268 h0 g _) rfl cf_X11_repeats wq1457 wq114 wq1455 (c_X11_repeatsJ l D g T h0 s53 hW.2.1 (x66 - 1) (by omega) x11 rx11 x9 rx9 (by omega) (by omega) (by omega) (by
                rw [Q289, Q178.1]
                intro q q1 q2
                by_cases h : q = s_4 268 34
                · subst h; rw [xud_s]; omega
                · rw [xud_o _ _ h]; exact v4_1.bb q q1 (by omega)) q54 q55 q56 q57) ⟨rfl, rfl, ⟨by decide, by decide⟩, ⟨by decide, by decide⟩⟩ rfl rfl (Nat.le_of_ble_eq_true rfl) dX11_readsStep_189) hW (fun x67 s68 H locs rx67 hp69 hW => ?_)
            obtain ⟨fs68, hp69⟩ := hp69
            have hF70 := hF65.call fs68 (fun k h => by omega)
            have ghp69 := hp69.2
            have H189 := ghp69
            rw [← ea186, show s53 268 34 - a186 = 1 from by omega, Int.mul_one, Q289] at H189
            have D189 : (x67 = 1 ∧ s_4 268 34 + s_4 268 37 ≤ 60 ∧ s68 268 34 = s_4 268 34 + s_4 268 37) ∨ x67 = 0 := H189.elim (fun q => Or.inl (by omega)) (fun q => Or.inr q.1)
            have N189 : x67 ≠ 0 → s68 289 = wrep (xud (s_4 289) (s_4 268 34) (2 * wst c108)) (s_4 268 34) (s_4 268 34 + 1) (s_4 268 37 - 1) := fun hv => by
              have y := (H189.resolve_right (fun q => hv q.1)).2.2.2
              rw [show a186 = s_4 268 34 from by omega, Q178.1] at y
              exact y.trans (wrep_c (by omega))
            have A189z : x67 ≠ 0 → (zRW s68 ∧ zR0 s68) ∧ zWY (xm8 (s0 276)) (s0 268 10) Z false (s68 268 9) (s68 268 34) (s68 289) (zst s68) := fun hv => by
              have d := D189.resolve_right hv
              have k5 : s68 268 35 = s_4 268 35 := by omega
              have k9 : s68 268 9 = s_4 268 9 + 1 := by omega
              refine ⟨⟨v4_0.1.f ⟨by omega, by omega⟩ ⟨by omega, by omega⟩ ((fs68 291 (by first | decide | omega)).trans Q177.2.1) ((fs68 292 (by first | decide | omega)).trans Q177.2.2.1), v4_0.2.f (by omega) ((fs68 290 (by first | decide | omega)).trans Q177.1)⟩, ?_⟩
              rw [zst_f k5 ((fs68 290 (by first | decide | omega)).trans Q177.1) ((fs68 291 (by first | decide | omega)).trans Q177.2.1) ((fs68 292 (by first | decide | omega)).trans Q177.2.2.1)]
              exact v4_1.step (by omega) v4_2.2 v4_2.1 (by omega) (by rw [← C108]; omega) (by omega) k9 d.2.2 (by rw [← C108]; exact N189 hv)
            refine x_if_ne (tgt := 197) hx hb rx67 dX11_readsStep_192 (by decide) (fun c71 => ?_) (fun c71 => ?_)
            · skip
              have L197 : ∀ (fu : Nat) (s_197 : xS) (H : Heap) (locs : List Loc) (ls : Array Slot), (xFr (fun k => k = 268 ∨ k = 289 ∨ k = 290 ∨ k = 291 ∨ k = 292) s0 s_197) → (IMn s_197) → (IMk s_197) → (IMo s_197) → (IR s_197) → (s_197 268 8 = s0 268 8) → (s_197 268 58 = s0 268 58) → (s_197 268 10 = s0 268 10) → (s_197 268 36 = x9) → (s_197 268 37 = x11) → (zRW s_197 ∧ zR0 s_197) → (zWY (xm8 (s0 276)) (s0 268 10) Z false (s_197 268 9) (s_197 268 34) (s_197 289) (zst s_197)) → (s0 268 9 + 1 ≤ s_197 268 9) → (241 - s_197 268 9).toNat < fu → xW D g h0 s H locs s_197 → lv_has ls 4 [(0, .ref (h0 + 268))] → W p l e { frames := 2, cells := 0, slots := 0, locals := 47 } s m args below meth c H locs 0 0 Q (F0 m 197 ls []) := by
                intro fu
                induction fu with
                | zero => intro s_197 H locs ls hF_197 q197_0 q197_1 q197_2 q197_3 q197_4 q197_5 q197_6 q197_9 q197_10 v197_0 v197_1 v197_2 hm; exact absurd hm (Nat.not_lt_zero _)
                | succ fu ih197 =>
                  intro s_197 H locs ls hF_197 q197_0 q197_1 q197_2 q197_3 q197_4 q197_5 q197_6 q197_9 q197_10 v197_0 v197_1 v197_2 hm hW hl
                  have hm_197 := fun (_ : Unit) => hm
                  clear hm
                  have r197 : 0 ≤ s_197 268 9 ∧ s_197 268 9 ≤ s_197 268 10 ∧ s_197 268 10 ≤ 240 := q197_3
                  have w197 := v197_0.1.1
                  have w195 := v197_0.1.2.1
                  have L197 := zst_l (σ := s_197) w195
                  refine x_aload_n hx hb hl 0 rfl dX11_readsStep_197 rfl ?_
                  refine x_goi (x_runV (As := []) hx hb hml hown hT hE hW hl.1 (Or.inl (by decide)) (so_268 h0 g _) rfl cf_X11_here wq1391 wq106 wq1389 (c_X11_here l D g T h0 s_197 hW.2.1 q197_0 q197_1 q197_2 q197_3) ⟨rfl, rfl, ⟨by decide, by decide⟩, ⟨by decide, by decide⟩⟩ rfl rfl (Nat.le_of_ble_eq_true rfl) dX11_readsStep_198) hW (fun x72 s73 H locs rx72 hp74 hW => ?_)
                  obtain ⟨es73, hp74⟩ := hp74
                  subst es73
                  have ghp74 := hp74
                  obtain ⟨c198, ec198⟩ : ∃ c : Int, c = x72 := ⟨_, rfl⟩
                  have C198 : c198 = zch (xm8 (s0 276)) (s0 268 10) (s_197 268 9) := by rw [ec198, ← hF_197 276 (by first | decide | omega), ← q197_6]; exact ghp74.1
                  have B198 := ghp74.2
                  refine x_bipush hx hb dX11_readsStep_201 (by decide) ?_
                  refine x_icmp_ne (tgt := 269) hx hb rx72 (by decide) dX11_readsStep_203 (by decide) (fun c75 => ?_) (fun c75 => ?_)
                  · skip
                    refine x_iconst hx hb dX11_readsStep_269 ?_
                    rw [eQ]
                    exact x_zret hx hb hr hlk hW (by omega) ⟨hF_197, ⟨q197_0, q197_1, q197_2, q197_3, q197_4, q197_5, q197_6, trivial⟩, Or.inr ⟨by omega, v197_0.1, v197_0.2, by omega, v197_1, by omega⟩⟩ dX11_readsStep_270
                  refine x_aload_n hx hb hl 0 rfl dX11_readsStep_206 rfl ?_
                  refine x_get (j := 35) (v := .int (xJ (s_197 268 35))) hx hb hown hT hE hW cls_X11 (Or.inl (by decide)) (so_268 h0 g _) (by decide) rfl wq1220 dX11_readsStep_207 ?_
                  refine x_rd hW (fun x76 ex76 rx76 => ?_)
                  have q77 : s_197 268 35 = x76 := ex76.symm
                  refine x_if_le (tgt := 269) hx hb rx76 dX11_readsStep_210 (by decide) (fun c78 => ?_) (fun c78 => ?_)
                  · skip
                    refine x_iconst hx hb dX11_readsStep_269 ?_
                    rw [eQ]
                    exact x_zret hx hb hr hlk hW (by omega) ⟨hF_197, ⟨q197_0, q197_1, q197_2, q197_3, q197_4, q197_5, q197_6, trivial⟩, Or.inr ⟨by omega, v197_0.1, v197_0.2, by omega, v197_1, by omega⟩⟩ dX11_readsStep_270
                  refine x_aload_n hx hb hl 0 rfl dX11_readsStep_213 rfl ?_
                  refine x_aload_n hx hb hl 0 rfl dX11_readsStep_214 rfl ?_
                  refine x_get (j := 9) (v := .int (xJ (s_197 268 9))) hx hb hown hT hE hW cls_X11 (Or.inl (by decide)) (so_268 h0 g _) (by decide) rfl wq1194 dX11_readsStep_215 ?_
                  refine x_rd hW (fun x79 ex79 rx79 => ?_)
                  have bx79 : 0 ≤ x79 ∧ x79 ≤ s_197 268 10 ∧ s_197 268 10 ≤ 240 := by rw [ex79]; exact q197_3
                  refine x_iconst hx hb dX11_readsStep_218 ?_
                  refine x_iadd hx hb dX11_readsStep_219 ?_
                  refine x_put (j := 9) hx hb hown hT hE hW cls_X11 (by decide) (fun σ => so_268 h0 g σ) (by decide) (st_X11_9 h0 s_197 268 (x79 + 1)) (ln_X11_9 h0 _ _) wq1194 rfl rfl rfl (by omega) dX11_readsStep_220 (fun H locs s80 es80 hW => ?_)
                  have q81 : IMn s80 := by rw [es80]; exact IMn_268 q197_0 (by omega)
                  have q82 : IMk s80 := by rw [es80]; exact IMk_268 q197_1 (by omega)
                  have q83 : IMo s80 := by rw [es80]; exact IMo_o (by unfold suIMo; first | decide | omega) q197_2
                  have q84 : IR s80 := by rw [es80]; exact IR_268 q197_3 (by omega)
                  have q85 : s80 268 8 = s0 268 8 := (show s80 268 8 = s_197 268 8 from by rw [es80, xU_j _ _ (by decide)]).trans q197_4
                  have q86 : s80 268 58 = s0 268 58 := (show s80 268 58 = s_197 268 58 from by rw [es80, xU_j _ _ (by decide)]).trans q197_5
                  have q87 : s80 268 10 = s0 268 10 := (show s80 268 10 = s_197 268 10 from by rw [es80, xU_j _ _ (by decide)]).trans q197_6
                  have q88 : s80 268 36 = x9 := (show s80 268 36 = s_197 268 36 from by rw [es80, xU_j _ _ (by decide)]).trans q197_9
                  have q89 : s80 268 37 = x11 := (show s80 268 37 = s_197 268 37 from by rw [es80, xU_j _ _ (by decide)]).trans q197_10
                  have q90 : s80 268 35 = x76 := (show s80 268 35 = s_197 268 35 from by rw [es80, xU_j _ _ (by decide)]).trans q77
                  have q91 : s80 268 9 = (x79 + 1) := by rw [es80, xU_s]
                  have hF92 := hF_197.put es80 (by omega)
                  have E220 := es80
                  refine x_aload_n hx hb hl 0 rfl dX11_readsStep_223 rfl ?_
                  refine x_aload_n hx hb hl 0 rfl dX11_readsStep_224 rfl ?_
                  refine x_get (j := 35) (v := .int (xJ (s80 268 35))) hx hb hown hT hE hW cls_X11 (Or.inl (by decide)) (so_268 h0 g _) (by decide) rfl wq1220 dX11_readsStep_225 ?_
                  refine x_rd hW (fun x93 ex93 rx93 => ?_)
                  have fx93 : x93 = x76 := ex93.trans q90
                  refine x_iconst hx hb dX11_readsStep_228 ?_
                  refine x_isub hx hb dX11_readsStep_229 ?_
                  refine x_put (j := 35) hx hb hown hT hE hW cls_X11 (by decide) (fun σ => so_268 h0 g σ) (by decide) (st_X11_35 h0 s80 268 (x93 - 1)) (ln_X11_35 h0 _ _) wq1220 rfl rfl rfl (by omega) dX11_readsStep_230 (fun H locs s94 es94 hW => ?_)
                  have q95 : IMn s94 := by rw [es94]; exact IMn_268 q81 (by omega)
                  have q96 : IMk s94 := by rw [es94]; exact IMk_268 q82 (by omega)
                  have q97 : IMo s94 := by rw [es94]; exact IMo_o (by unfold suIMo; first | decide | omega) q83
                  have q98 : IR s94 := by rw [es94]; exact IR_268 q84 (by omega)
                  have q99 : s94 268 8 = s0 268 8 := (show s94 268 8 = s80 268 8 from by rw [es94, xU_j _ _ (by decide)]).trans q85
                  have q100 : s94 268 58 = s0 268 58 := (show s94 268 58 = s80 268 58 from by rw [es94, xU_j _ _ (by decide)]).trans q86
                  have q101 : s94 268 10 = s0 268 10 := (show s94 268 10 = s80 268 10 from by rw [es94, xU_j _ _ (by decide)]).trans q87
                  have q102 : s94 268 36 = x9 := (show s94 268 36 = s80 268 36 from by rw [es94, xU_j _ _ (by decide)]).trans q88
                  have q103 : s94 268 37 = x11 := (show s94 268 37 = s80 268 37 from by rw [es94, xU_j _ _ (by decide)]).trans q89
                  have q104 : s94 268 35 = (x93 - 1) := by rw [es94, xU_s]
                  have q105 : s94 268 9 = (x79 + 1) := (show s94 268 9 = s80 268 9 from by rw [es94, xU_j _ _ (by decide)]).trans q91
                  have hF106 := hF92.put es94 (by omega)
                  have E230 := es94
                  have Q230 : s94 290 = s_197 290 ∧ s94 291 = s_197 291 ∧ s94 292 = s_197 292 := ⟨by rw [E230, xU_k _ _ _ (by first | decide | omega), E220, xU_k _ _ _ (by first | decide | omega)], by rw [E230, xU_k _ _ _ (by first | decide | omega), E220, xU_k _ _ _ (by first | decide | omega)], by rw [E230, xU_k _ _ _ (by first | decide | omega), E220, xU_k _ _ _ (by first | decide | omega)]⟩
                  have Q231 : s94 268 35 = s_197 268 35 - 1 ∧ s94 268 34 = s_197 268 34 ∧ s94 268 9 = s_197 268 9 + 1 := ⟨by rw [E230, xU_s]; omega, by rw [E230, xU_j _ _ (by decide), E220, xU_j _ _ (by decide)], by rw [E230, xU_j _ _ (by decide), E220, xU_s]; omega⟩
                  have O230 := zst_pop (σ := s_197) (τ := s94) (by omega) Q231.1 Q230.1 Q230.2.1 Q230.2.2
                  have W230 := v197_0.1.2.2 (s94 268 35) (by omega) (by omega)
                  have X230 := v197_0.2 (s94 268 35) (by omega) (by omega)
                  have P230 := v197_1
                  rw [O230] at P230
                  have Q289b : s94 289 = s_197 289 := by rw [E230, xU_k _ _ _ (by first | decide | omega), E220, xU_k _ _ _ (by first | decide | omega)]
                  refine x_aload_n hx hb hl 0 rfl dX11_readsStep_233 rfl ?_
                  refine x_aload_n hx hb hl 0 rfl dX11_readsStep_234 rfl ?_
                  refine x_get (j := 32) (v := .ref (h0 + 291)) hx hb hown hT hE hW cls_X11 (Or.inl (by decide)) (so_268 h0 g _) (by decide) rfl wq1217 dX11_readsStep_235 ?_
                  refine x_aload_n hx hb hl 0 rfl dX11_readsStep_238 rfl ?_
                  refine x_get (j := 35) (v := .int (xJ (s94 268 35))) hx hb hown hT hE hW cls_X11 (Or.inl (by decide)) (so_268 h0 g _) (by decide) rfl wq1220 dX11_readsStep_239 ?_
                  refine x_rd hW (fun x107 ex107 rx107 => ?_)
                  have fx107 : x107 = (x93 - 1) := ex107.trans q104
                  refine x_iald hx hb hE hW (Or.inl (by decide)) (sa_291 h0 g _) (by omega) (by decide) dX11_readsStep_242 ?_
                  refine x_rd hW (fun x108 ex108 rx108 => ?_)
                  have V242 : x108 = s_197 291 (s94 268 35) := by rw [ex108, Q230.2.1, show x107 = s94 268 35 from by omega]
                  refine x_aload_n hx hb hl 0 rfl dX11_readsStep_243 rfl ?_
                  refine x_get (j := 33) (v := .ref (h0 + 292)) hx hb hown hT hE hW cls_X11 (Or.inl (by decide)) (so_268 h0 g _) (by decide) rfl wq1218 dX11_readsStep_244 ?_
                  refine x_aload_n hx hb hl 0 rfl dX11_readsStep_247 rfl ?_
                  refine x_get (j := 35) (v := .int (xJ (s94 268 35))) hx hb hown hT hE hW cls_X11 (Or.inl (by decide)) (so_268 h0 g _) (by decide) rfl wq1220 dX11_readsStep_248 ?_
                  refine x_rd hW (fun x109 ex109 rx109 => ?_)
                  have fx109 : x109 = (x93 - 1) := ex109.trans q104
                  refine x_iald hx hb hE hW (Or.inl (by decide)) (sa_292 h0 g _) (by omega) (by decide) dX11_readsStep_251 ?_
                  refine x_rd hW (fun x110 ex110 rx110 => ?_)
                  have V251 : x110 = s_197 292 (s94 268 35) := by rw [ex110, Q230.2.2, show x109 = s94 268 35 from by omega]
                  refine x_aload_n hx hb hl 0 rfl dX11_readsStep_252 rfl ?_
                  refine x_get (j := 31) (v := .ref (h0 + 290)) hx hb hown hT hE hW cls_X11 (Or.inl (by decide)) (so_268 h0 g _) (by decide) rfl wq1216 dX11_readsStep_253 ?_
                  refine x_aload_n hx hb hl 0 rfl dX11_readsStep_256 rfl ?_
                  refine x_get (j := 35) (v := .int (xJ (s94 268 35))) hx hb hown hT hE hW cls_X11 (Or.inl (by decide)) (so_268 h0 g _) (by decide) rfl wq1220 dX11_readsStep_257 ?_
                  refine x_rd hW (fun x111 ex111 rx111 => ?_)
                  have fx111 : x111 = (x93 - 1) := ex111.trans q104
                  refine x_iald hx hb hE hW (Or.inl (by decide)) (sa_290 h0 g _) (by omega) (by decide) dX11_readsStep_260 ?_
                  refine x_rd hW (fun x112 ex112 rx112 => ?_)
                  have V260 : x112 = s_197 290 (s94 268 35) := by rw [ex112, Q230.1, show x111 = s94 268 35 from by omega]
                  refine x_goi (x_runV (As := [.int (xJ x108), .int (xJ x110), .int (xJ x112)]) hx hb hml hown hT hE hW hl.1 (Or.inl (by decide)) (so_268 h0 g _) rfl cf_X11_repeats wq1457 wq114 wq1455 (c_X11_repeatsJ l D g T h0 s94 hW.2.1 x108 rx108 x110 rx110 x112 rx112 (by omega) (by omega) (by omega) (by rw [Q231.2.1, Q289b]; exact P230.bb) q95 q96 q97 q98) ⟨rfl, rfl, ⟨by decide, by decide⟩, ⟨by decide, by decide⟩⟩ rfl rfl (Nat.le_of_ble_eq_true rfl) dX11_readsStep_261) hW (fun x113 s114 H locs rx113 hp115 hW => ?_)
                  obtain ⟨fs114, hp115⟩ := hp115
                  have hF116 := hF106.call fs114 (fun k h => by omega)
                  have ghp115 := hp115.2
                  have H261 := ghp115
                  rw [V242, V251, V260, Q231.2.1, Q289b] at H261
                  have A261z : x113 ≠ 0 → (zRW s114 ∧ zR0 s114) ∧ zWY (xm8 (s0 276)) (s0 268 10) Z false (s114 268 9) (s114 268 34) (s114 289) (zst s114) := fun hv => by
                    have d := H261.resolve_right (fun q => hv q.1)
                    have k5 : s114 268 35 = s94 268 35 := by omega
                    have k9 : s114 268 9 = s_197 268 9 + 1 := by omega
                    have m9 : 0 ≤ (s_197 292 (s94 268 35) - 1) * (s_197 268 34 - s_197 291 (s94 268 35)) := Int.mul_nonneg (by omega) (by omega)
                    refine ⟨⟨v197_0.1.f ⟨by omega, by omega⟩ ⟨by omega, by omega⟩ ((fs114 291 (by first | decide | omega)).trans Q230.2.1) ((fs114 292 (by first | decide | omega)).trans Q230.2.2), v197_0.2.f (by omega) ((fs114 290 (by first | decide | omega)).trans Q230.1)⟩, ?_⟩
                    rw [zst_f k5 (fs114 290 (by first | decide | omega)) (fs114 291 (by first | decide | omega)) (fs114 292 (by first | decide | omega))]
                    exact P230.pop (by omega) (by omega) (by omega) k9 d.2.2.1 d.2.2.2
                  refine x_if_ne (tgt := 197) hx hb rx113 dX11_readsStep_264 (by decide) (fun c117 => ?_) (fun c117 => ?_)
                  · skip
                    exact ih197 s114 H locs ls hF116 hp115.1.1 hp115.1.2.1 hp115.1.2.2.1 hp115.1.2.2.2.1 (hp115.1.2.2.2.2.1.trans q99) (hp115.1.2.2.2.2.2.1.trans q100) (hp115.1.2.2.2.2.2.2.1.trans q101) (hp115.1.2.2.2.2.2.2.2.2.2.1.trans q102) (hp115.1.2.2.2.2.2.2.2.2.2.2.1.trans q103) ((A261z (by omega)).1) ((A261z (by omega)).2) (by omega) (by have hm := hm_197 (); omega) hW (lv_sub hl [0] rfl)
                  refine x_iconst hx hb dX11_readsStep_267 ?_
                  rw [eQ]
                  exact x_zret hx hb hr hlk hW (by omega) ⟨hF116, ⟨hp115.1.1, hp115.1.2.1, hp115.1.2.2.1, hp115.1.2.2.2.1, (hp115.1.2.2.2.2.1.trans q99), (hp115.1.2.2.2.2.2.1.trans q100), (hp115.1.2.2.2.2.2.2.1.trans q101), trivial⟩, by
                      have d := H261.resolve_left (fun q => by omega)
                      have z := P230.x.pop6 (by omega) (by omega) d.2.1
                      exact Or.inl ⟨by omega, by omega, by omega, by omega⟩⟩ dX11_readsStep_268
              exact L197 ((241 - s68 268 9 : Int).toNat + 1) s68 H locs ls hF70 hp69.1.1 hp69.1.2.1 hp69.1.2.2.1 hp69.1.2.2.2.1 (hp69.1.2.2.2.2.1.trans q58) (hp69.1.2.2.2.2.2.1.trans q59) (hp69.1.2.2.2.2.2.2.1.trans q60) (hp69.1.2.2.2.2.2.2.2.2.2.1.trans q62) (hp69.1.2.2.2.2.2.2.2.2.2.2.1.trans q63) ((A189z (by omega)).1) ((A189z (by omega)).2) (by omega) (Nat.lt_succ_self _) hW (lv_sub hl [3] rfl)
            refine x_iconst hx hb dX11_readsStep_195 ?_
            rw [eQ]
            exact x_zret hx hb hr hlk hW (by omega) ⟨hF70, ⟨hp69.1.1, hp69.1.2.1, hp69.1.2.2.1, hp69.1.2.2.2.1, (hp69.1.2.2.2.2.1.trans q58), (hp69.1.2.2.2.2.2.1.trans q59), (hp69.1.2.2.2.2.2.2.1.trans q60), trivial⟩, by
                have d := H189.resolve_left (fun q => by omega)
                have z := v4_1.x.six (p1 := s_4 268 9) (by omega) v4_2.2 v4_2.1 (by omega) (by rw [← C108]; omega) (by omega)
                exact Or.inl ⟨by omega, by omega, by omega, by omega⟩⟩ dX11_readsStep_196
          refine x_aload_n hx hb hl 3 rfl dX11_readsStep_151 rfl ?_
          refine x_bipush hx hb dX11_readsStep_152 (by decide) ?_
          refine x_iload_n hx hb hl 2 rfl dX11_readsStep_154 rfl ?_
          refine x_goi (x_runV (As := [.int (xJ 6), .int (xJ x9)]) hx hb hml hown hT hE hW hl.1 (Or.inl (by decide)) (so_268 h0 g _) rfl cf_X11_wrongAt wq1401 wq107 wq1399 (c_X11_wrongAtW l D g T h0 s21 hW.2.1 6 (by decide) x9 rx9 (by omega) q22 q23 q24 q25) ⟨rfl, rfl, ⟨by decide, by decide⟩, ⟨by decide, by decide⟩⟩ rfl rfl (Nat.le_of_ble_eq_true rfl) dX11_readsStep_155) hW (fun x118 s119 H locs rx118 hp120 hW => ?_)
          obtain ⟨fs119, hp120⟩ := hp120
          have hF121 := hF33.call fs119 (fun k h => by omega)
          have ghp120 := hp120.2
          rw [eQ]
          exact x_zret hx hb hr hlk hW (by omega) ⟨hF121, ⟨hp120.1.1, hp120.1.2.1, hp120.1.2.2.1, hp120.1.2.2.2.1, (hp120.1.2.2.2.2.1.trans q26), (hp120.1.2.2.2.2.2.1.trans q27), (hp120.1.2.2.2.2.2.2.1.trans q28), trivial⟩, by
              have z := v4_1.x.six (p1 := s_4 268 9) (by omega) v4_2.2 v4_2.1 (by omega) (by rw [← C108]; omega) (by omega)
              exact Or.inl ⟨by omega, by omega, by omega, by omega⟩⟩ dX11_readsStep_158
        refine x_aload_n hx hb hl 3 rfl dX11_readsStep_120 rfl ?_
        refine x_iconst hx hb dX11_readsStep_121 ?_
        refine x_aload_n hx hb hl 3 rfl dX11_readsStep_122 rfl ?_
        refine x_get (j := 9) (v := .int (xJ (s_4 268 9))) hx hb hown hT hE hW cls_X11 (Or.inl (by decide)) (so_268 h0 g _) (by decide) rfl wq1194 dX11_readsStep_123 ?_
        refine x_rd hW (fun x122 ex122 rx122 => ?_)
        have bx122 : 0 ≤ x122 ∧ x122 ≤ s_4 268 10 ∧ s_4 268 10 ≤ 240 := by rw [ex122]; exact q4_3
        refine x_goi (x_runV (As := [.int (xJ 1), .int (xJ x122)]) hx hb hml hown hT hE hW hl.1 (Or.inl (by decide)) (so_268 h0 g _) rfl cf_X11_wrongAt wq1401 wq107 wq1399 (c_X11_wrongAtW l D g T h0 s_4 hW.2.1 1 (by decide) x122 rx122 (by omega) q4_0 q4_1 q4_2 q4_3) ⟨rfl, rfl, ⟨by decide, by decide⟩, ⟨by decide, by decide⟩⟩ rfl rfl (Nat.le_of_ble_eq_true rfl) dX11_readsStep_126) hW (fun x123 s124 H locs rx123 hp125 hW => ?_)
        obtain ⟨fs124, hp125⟩ := hp125
        have hF126 := hF_4.call fs124 (fun k h => by omega)
        have ghp125 := hp125.2
        rw [eQ]
        exact x_zret hx hb hr hlk hW (by omega) ⟨hF126, ⟨hp125.1.1, hp125.1.2.1, hp125.1.2.2.1, hp125.1.2.2.2.1, (hp125.1.2.2.2.2.1.trans q4_4), (hp125.1.2.2.2.2.2.1.trans q4_5), (hp125.1.2.2.2.2.2.2.1.trans q4_6), trivial⟩, by
            have z := v4_1.x.one (p1 := s_4 268 9) (by omega) v4_2.2 (by omega) (by rw [← C108]; omega)
            exact Or.inl ⟨by omega, by omega, by omega, by omega⟩⟩ dX11_readsStep_129
      refine x_aload_n hx hb hl 0 rfl dX11_readsStep_13 rfl ?_
      refine x_get (j := 35) (v := .int (xJ (s_4 268 35))) hx hb hown hT hE hW cls_X11 (Or.inl (by decide)) (so_268 h0 g _) (by decide) rfl wq1220 dX11_readsStep_14 ?_
      refine x_rd hW (fun x127 ex127 rx127 => ?_)
      have q128 : s_4 268 35 = x127 := ex127.symm
      refine x_iconst hx hb dX11_readsStep_17 ?_
      refine x_icmp_ne (tgt := 31) hx hb rx127 (by decide) dX11_readsStep_18 (by decide) (fun c129 => ?_) (fun c129 => ?_)
      · skip
        refine x_aload_n hx hb hl 0 rfl dX11_readsStep_31 rfl ?_
        refine x_get (j := 31) (v := .ref (h0 + 290)) hx hb hown hT hE hW cls_X11 (Or.inl (by decide)) (so_268 h0 g _) (by decide) rfl wq1216 dX11_readsStep_32 ?_
        refine x_aload_n hx hb hl 0 rfl dX11_readsStep_35 rfl ?_
        refine x_get (j := 35) (v := .int (xJ (s_4 268 35))) hx hb hown hT hE hW cls_X11 (Or.inl (by decide)) (so_268 h0 g _) (by decide) rfl wq1220 dX11_readsStep_36 ?_
        refine x_rd hW (fun x130 ex130 rx130 => ?_)
        have fx130 : x130 = x127 := ex130.trans q128
        refine x_aload_n hx hb hl 0 rfl dX11_readsStep_39 rfl ?_
        refine x_get (j := 36) (v := .int (xJ (s_4 268 36))) hx hb hown hT hE hW cls_X11 (Or.inl (by decide)) (so_268 h0 g _) (by decide) rfl wq1221 dX11_readsStep_40 ?_
        refine x_rd hW (fun x131 ex131 rx131 => ?_)
        have q132 : s_4 268 36 = x131 := ex131.symm
        refine x_iast hx hb hE hW (by decide) (fun σ => sa_290 h0 g σ) (by omega) (by decide) rx131 dX11_readsStep_43 (fun H locs s133 es133 hW => ?_)
        have q134 : IMn s133 := by rw [es133]; exact IMn_o (by unfold suIMn; first | decide | omega) q4_0
        have q135 : IMk s133 := by rw [es133]; exact IMk_o (by unfold suIMk; first | decide | omega) q4_1
        have q136 : IMo s133 := by rw [es133]; exact IMo_o (by unfold suIMo; first | decide | omega) q4_2
        have q137 : IR s133 := by rw [es133]; exact IR_o (by unfold suIR; first | decide | omega) q4_3
        have q138 : s133 268 8 = s0 268 8 := (show s133 268 8 = s_4 268 8 from by rw [es133, xU_k _ _ _ (by first | decide | omega)]).trans q4_4
        have q139 : s133 268 58 = s0 268 58 := (show s133 268 58 = s_4 268 58 from by rw [es133, xU_k _ _ _ (by first | decide | omega)]).trans q4_5
        have q140 : s133 268 10 = s0 268 10 := (show s133 268 10 = s_4 268 10 from by rw [es133, xU_k _ _ _ (by first | decide | omega)]).trans q4_6
        have q141 : s133 268 34 = s0 268 34 := (show s133 268 34 = s_4 268 34 from by rw [es133, xU_k _ _ _ (by first | decide | omega)]).trans q4_7
        have q142 : s133 268 35 = x127 := (show s133 268 35 = s_4 268 35 from by rw [es133, xU_k _ _ _ (by first | decide | omega)]).trans q128
        have q143 : s133 268 36 = x131 := (show s133 268 36 = s_4 268 36 from by rw [es133, xU_k _ _ _ (by first | decide | omega)]).trans q132
        have hF144 := hF_4.put es133 (by omega)
        have E43 := es133
        have V43 : x130 = s_4 268 35 ∧ x131 = s_4 268 36 := ⟨by omega, by omega⟩
        refine x_aload_n hx hb hl 0 rfl dX11_readsStep_44 rfl ?_
        refine x_get (j := 32) (v := .ref (h0 + 291)) hx hb hown hT hE hW cls_X11 (Or.inl (by decide)) (so_268 h0 g _) (by decide) rfl wq1217 dX11_readsStep_45 ?_
        refine x_aload_n hx hb hl 0 rfl dX11_readsStep_48 rfl ?_
        refine x_get (j := 35) (v := .int (xJ (s133 268 35))) hx hb hown hT hE hW cls_X11 (Or.inl (by decide)) (so_268 h0 g _) (by decide) rfl wq1220 dX11_readsStep_49 ?_
        refine x_rd hW (fun x145 ex145 rx145 => ?_)
        have fx145 : x145 = x127 := ex145.trans q142
        refine x_aload_n hx hb hl 0 rfl dX11_readsStep_52 rfl ?_
        refine x_get (j := 34) (v := .int (xJ (s133 268 34))) hx hb hown hT hE hW cls_X11 (Or.inl (by decide)) (so_268 h0 g _) (by decide) rfl wq1219 dX11_readsStep_53 ?_
        refine x_rd hW (fun x146 ex146 rx146 => ?_)
        have fx146 : x146 = s0 268 34 := ex146.trans q141
        refine x_iast hx hb hE hW (by decide) (fun σ => sa_291 h0 g σ) (by omega) (by decide) rx146 dX11_readsStep_56 (fun H locs s147 es147 hW => ?_)
        have q148 : IMn s147 := by rw [es147]; exact IMn_o (by unfold suIMn; first | decide | omega) q134
        have q149 : IMk s147 := by rw [es147]; exact IMk_o (by unfold suIMk; first | decide | omega) q135
        have q150 : IMo s147 := by rw [es147]; exact IMo_o (by unfold suIMo; first | decide | omega) q136
        have q151 : IR s147 := by rw [es147]; exact IR_o (by unfold suIR; first | decide | omega) q137
        have q152 : s147 268 8 = s0 268 8 := (show s147 268 8 = s133 268 8 from by rw [es147, xU_k _ _ _ (by first | decide | omega)]).trans q138
        have q153 : s147 268 58 = s0 268 58 := (show s147 268 58 = s133 268 58 from by rw [es147, xU_k _ _ _ (by first | decide | omega)]).trans q139
        have q154 : s147 268 10 = s0 268 10 := (show s147 268 10 = s133 268 10 from by rw [es147, xU_k _ _ _ (by first | decide | omega)]).trans q140
        have q155 : s147 268 34 = s0 268 34 := (show s147 268 34 = s133 268 34 from by rw [es147, xU_k _ _ _ (by first | decide | omega)]).trans q141
        have q156 : s147 268 35 = x127 := (show s147 268 35 = s133 268 35 from by rw [es147, xU_k _ _ _ (by first | decide | omega)]).trans q142
        have q157 : s147 268 36 = x131 := (show s147 268 36 = s133 268 36 from by rw [es147, xU_k _ _ _ (by first | decide | omega)]).trans q143
        have hF158 := hF144.put es147 (by omega)
        have E56 := es147
        have V56 : x145 = s_4 268 35 ∧ x146 = s_4 268 34 := ⟨by omega, by rw [ex146, E43, xU_k _ _ _ (by first | decide | omega)]⟩
        refine x_aload_n hx hb hl 0 rfl dX11_readsStep_57 rfl ?_
        refine x_get (j := 33) (v := .ref (h0 + 292)) hx hb hown hT hE hW cls_X11 (Or.inl (by decide)) (so_268 h0 g _) (by decide) rfl wq1218 dX11_readsStep_58 ?_
        refine x_aload_n hx hb hl 0 rfl dX11_readsStep_61 rfl ?_
        refine x_get (j := 35) (v := .int (xJ (s147 268 35))) hx hb hown hT hE hW cls_X11 (Or.inl (by decide)) (so_268 h0 g _) (by decide) rfl wq1220 dX11_readsStep_62 ?_
        refine x_rd hW (fun x159 ex159 rx159 => ?_)
        have fx159 : x159 = x127 := ex159.trans q156
        refine x_aload_n hx hb hl 0 rfl dX11_readsStep_65 rfl ?_
        refine x_get (j := 37) (v := .int (xJ (s147 268 37))) hx hb hown hT hE hW cls_X11 (Or.inl (by decide)) (so_268 h0 g _) (by decide) rfl wq1222 dX11_readsStep_66 ?_
        refine x_rd hW (fun x160 ex160 rx160 => ?_)
        have q161 : s147 268 37 = x160 := ex160.symm
        refine x_iast hx hb hE hW (by decide) (fun σ => sa_292 h0 g σ) (by omega) (by decide) rx160 dX11_readsStep_69 (fun H locs s162 es162 hW => ?_)
        have q163 : IMn s162 := by rw [es162]; exact IMn_o (by unfold suIMn; first | decide | omega) q148
        have q164 : IMk s162 := by rw [es162]; exact IMk_o (by unfold suIMk; first | decide | omega) q149
        have q165 : IMo s162 := by rw [es162]; exact IMo_o (by unfold suIMo; first | decide | omega) q150
        have q166 : IR s162 := by rw [es162]; exact IR_o (by unfold suIR; first | decide | omega) q151
        have q167 : s162 268 8 = s0 268 8 := (show s162 268 8 = s147 268 8 from by rw [es162, xU_k _ _ _ (by first | decide | omega)]).trans q152
        have q168 : s162 268 58 = s0 268 58 := (show s162 268 58 = s147 268 58 from by rw [es162, xU_k _ _ _ (by first | decide | omega)]).trans q153
        have q169 : s162 268 10 = s0 268 10 := (show s162 268 10 = s147 268 10 from by rw [es162, xU_k _ _ _ (by first | decide | omega)]).trans q154
        have q170 : s162 268 34 = s0 268 34 := (show s162 268 34 = s147 268 34 from by rw [es162, xU_k _ _ _ (by first | decide | omega)]).trans q155
        have q171 : s162 268 35 = x127 := (show s162 268 35 = s147 268 35 from by rw [es162, xU_k _ _ _ (by first | decide | omega)]).trans q156
        have q172 : s162 268 36 = x131 := (show s162 268 36 = s147 268 36 from by rw [es162, xU_k _ _ _ (by first | decide | omega)]).trans q157
        have q173 : s162 268 37 = x160 := (show s162 268 37 = s147 268 37 from by rw [es162, xU_k _ _ _ (by first | decide | omega)]).trans q161
        have hF174 := hF158.put es162 (by omega)
        have E69 := es162
        have V69 : x159 = s_4 268 35 ∧ x160 = s_4 268 37 := ⟨by omega, by rw [ex160, E56, xU_k _ _ _ (by first | decide | omega), E43, xU_k _ _ _ (by first | decide | omega)]⟩
        refine x_aload_n hx hb hl 0 rfl dX11_readsStep_70 rfl ?_
        refine x_aload_n hx hb hl 0 rfl dX11_readsStep_71 rfl ?_
        refine x_get (j := 35) (v := .int (xJ (s162 268 35))) hx hb hown hT hE hW cls_X11 (Or.inl (by decide)) (so_268 h0 g _) (by decide) rfl wq1220 dX11_readsStep_72 ?_
        refine x_rd hW (fun x175 ex175 rx175 => ?_)
        have fx175 : x175 = x127 := ex175.trans q171
        refine x_iconst hx hb dX11_readsStep_75 ?_
        refine x_iadd hx hb dX11_readsStep_76 ?_
        refine x_put (j := 35) hx hb hown hT hE hW cls_X11 (by decide) (fun σ => so_268 h0 g σ) (by decide) (st_X11_35 h0 s162 268 (x175 + 1)) (ln_X11_35 h0 _ _) wq1220 rfl rfl rfl (by omega) dX11_readsStep_77 (fun H locs s176 es176 hW => ?_)
        have q177 : IMn s176 := by rw [es176]; exact IMn_268 q163 (by omega)
        have q178 : IMk s176 := by rw [es176]; exact IMk_268 q164 (by omega)
        have q179 : IMo s176 := by rw [es176]; exact IMo_o (by unfold suIMo; first | decide | omega) q165
        have q180 : IR s176 := by rw [es176]; exact IR_268 q166 (by omega)
        have q181 : s176 268 8 = s0 268 8 := (show s176 268 8 = s162 268 8 from by rw [es176, xU_j _ _ (by decide)]).trans q167
        have q182 : s176 268 58 = s0 268 58 := (show s176 268 58 = s162 268 58 from by rw [es176, xU_j _ _ (by decide)]).trans q168
        have q183 : s176 268 10 = s0 268 10 := (show s176 268 10 = s162 268 10 from by rw [es176, xU_j _ _ (by decide)]).trans q169
        have q184 : s176 268 34 = s0 268 34 := (show s176 268 34 = s162 268 34 from by rw [es176, xU_j _ _ (by decide)]).trans q170
        have q185 : s176 268 35 = (x175 + 1) := by rw [es176, xU_s]
        have q186 : s176 268 36 = x131 := (show s176 268 36 = s162 268 36 from by rw [es176, xU_j _ _ (by decide)]).trans q172
        have q187 : s176 268 37 = x160 := (show s176 268 37 = s162 268 37 from by rw [es176, xU_j _ _ (by decide)]).trans q173
        have hF188 := hF174.put es176 (by omega)
        have E77 := es176
        refine x_aload_n hx hb hl 0 rfl dX11_readsStep_80 rfl ?_
        refine x_aload_n hx hb hl 0 rfl dX11_readsStep_81 rfl ?_
        refine x_get (j := 9) (v := .int (xJ (s176 268 9))) hx hb hown hT hE hW cls_X11 (Or.inl (by decide)) (so_268 h0 g _) (by decide) rfl wq1194 dX11_readsStep_82 ?_
        refine x_rd hW (fun x189 ex189 rx189 => ?_)
        have bx189 : 0 ≤ x189 ∧ x189 ≤ s176 268 10 ∧ s176 268 10 ≤ 240 := by rw [ex189]; exact q180
        have V82 : x189 = s_4 268 9 := by rw [ex189, E77, xU_j _ _ (by decide), E69, xU_k _ _ _ (by first | decide | omega), E56, xU_k _ _ _ (by first | decide | omega), E43, xU_k _ _ _ (by first | decide | omega)]
        refine x_iconst hx hb dX11_readsStep_85 ?_
        refine x_iadd hx hb dX11_readsStep_86 ?_
        refine x_put (j := 9) hx hb hown hT hE hW cls_X11 (by decide) (fun σ => so_268 h0 g σ) (by decide) (st_X11_9 h0 s176 268 (x189 + 1)) (ln_X11_9 h0 _ _) wq1194 rfl rfl rfl (by omega) dX11_readsStep_87 (fun H locs s190 es190 hW => ?_)
        have q191 : IMn s190 := by rw [es190]; exact IMn_268 q177 (by omega)
        have q192 : IMk s190 := by rw [es190]; exact IMk_268 q178 (by omega)
        have q193 : IMo s190 := by rw [es190]; exact IMo_o (by unfold suIMo; first | decide | omega) q179
        have q194 : IR s190 := by rw [es190]; exact IR_268 q180 (by omega)
        have q195 : s190 268 8 = s0 268 8 := (show s190 268 8 = s176 268 8 from by rw [es190, xU_j _ _ (by decide)]).trans q181
        have q196 : s190 268 58 = s0 268 58 := (show s190 268 58 = s176 268 58 from by rw [es190, xU_j _ _ (by decide)]).trans q182
        have q197 : s190 268 10 = s0 268 10 := (show s190 268 10 = s176 268 10 from by rw [es190, xU_j _ _ (by decide)]).trans q183
        have q198 : s190 268 34 = s0 268 34 := (show s190 268 34 = s176 268 34 from by rw [es190, xU_j _ _ (by decide)]).trans q184
        have q199 : s190 268 35 = (x175 + 1) := (show s190 268 35 = s176 268 35 from by rw [es190, xU_j _ _ (by decide)]).trans q185
        have q200 : s190 268 36 = x131 := (show s190 268 36 = s176 268 36 from by rw [es190, xU_j _ _ (by decide)]).trans q186
        have q201 : s190 268 37 = x160 := (show s190 268 37 = s176 268 37 from by rw [es190, xU_j _ _ (by decide)]).trans q187
        have q202 : s190 268 9 = (x189 + 1) := by rw [es190, xU_s]
        have hF203 := hF188.put es190 (by omega)
        have E87 := es190
        have S87 : s190 290 = xud (s_4 290) (s_4 268 35) (s_4 268 36) ∧ s190 291 = xud (s_4 291) (s_4 268 35) (s_4 268 34) ∧ s190 292 = xud (s_4 292) (s_4 268 35) (s_4 268 37) := ⟨by rw [E87, xU_k _ _ _ (by first | decide | omega), E77, xU_k _ _ _ (by first | decide | omega), E69, xU_k _ _ _ (by first | decide | omega), E56, xU_k _ _ _ (by first | decide | omega), E43, xU_xud, V43.1, V43.2], by rw [E87, xU_k _ _ _ (by first | decide | omega), E77, xU_k _ _ _ (by first | decide | omega), E69, xU_k _ _ _ (by first | decide | omega), E56, xU_xud, E43, xU_k _ _ _ (by first | decide | omega), V56.1, V56.2], by rw [E87, xU_k _ _ _ (by first | decide | omega), E77, xU_k _ _ _ (by first | decide | omega), E69, xU_xud, E56, xU_k _ _ _ (by first | decide | omega), E43, xU_k _ _ _ (by first | decide | omega), V69.1, V69.2]⟩
        have S88 : s190 268 35 = s_4 268 35 + 1 ∧ s190 268 34 = s_4 268 34 ∧ s190 268 9 = s_4 268 9 + 1 := ⟨by rw [E87, xU_j _ _ (by decide), E77, xU_s]; omega, by rw [E87, xU_j _ _ (by decide), E77, xU_j _ _ (by decide), E69, xU_k _ _ _ (by first | decide | omega), E56, xU_k _ _ _ (by first | decide | omega), E43, xU_k _ _ _ (by first | decide | omega)], by rw [E87, xU_s]; omega⟩
        have O87 := zst_push (σ := s_4) (τ := s190) (by omega) S88.1 S87.1 S87.2.1 S87.2.2
        have R88 : zR0 s190 := v4_0.2.push S88.1 S87.1 (by omega)
        have R87 : zRW s190 := v4_0.1.push ⟨S88.1, by omega⟩ S88.2.1 S87.2.1 S87.2.2 (by omega)
        have Z87 : zWY (xm8 (s0 276)) (s0 268 10) Z true (s190 268 9) (s190 268 34) (s190 289) (zst s190) := by
          rw [O87, S88.2.1, show s190 289 = s_4 289 from by rw [E87, xU_k _ _ _ (by first | decide | omega), E77, xU_k _ _ _ (by first | decide | omega), E69, xU_k _ _ _ (by first | decide | omega), E56, xU_k _ _ _ (by first | decide | omega), E43, xU_k _ _ _ (by first | decide | omega)]]
          exact v4_1.open_ (by omega) v4_2.2 v4_2.1 (by omega) (by omega) S88.2.2
        have G87 : s190 276 = s0 276 := hF203 276 (by first | decide | omega)
        have N87 : s190 268 10 = s0 268 10 := q197
        refine x_aload_n hx hb hl 0 rfl dX11_readsStep_90 rfl ?_
        refine x_gov (x_runV (As := []) hx hb hml hown hT hE hW hl.1 (Or.inl (by decide)) (so_268 h0 g _) rfl cf_X11_readsTimes wq1450 wq113 wq1448 (c_X11_readsTimesW l D g T h0 s190 hW.2.1 q191 q192 q193 q194) ⟨rfl, rfl, ⟨by decide, by decide⟩, ⟨by decide, by decide⟩⟩ rfl rfl (Nat.le_of_ble_eq_true rfl) dX11_readsStep_91) hW (fun s205 H locs hp206 hW => ?_)
        obtain ⟨fs205, hp206⟩ := hp206
        have hF207 := hF203.call fs205 (fun k h => by omega)
        have ghp206 := hp206.2
        have A91 : (zRW s205 ∧ zR0 s205) ∧ zWY (xm8 (s0 276)) (s0 268 10) Z true (s205 268 36) (s205 268 34) (s205 289) (zst s205) ∧ (s205 268 37 = wtm (zch (xm8 (s0 276)) (s0 268 10) (s205 268 36)) ∧ s205 268 9 = wp1 (xm8 (s0 276)) (s0 268 10) (s205 268 36)) := by
          obtain ⟨h1, h2, h3⟩ := ghp206
          rw [G87, N87] at h2 h3
          have k5 : s205 268 35 = s190 268 35 := by omega
          have k4 : s205 268 34 = s190 268 34 := by omega
          have b5 := R87.2.1
          have b4 := R87.1
          refine ⟨⟨R87.f ⟨by omega, by omega⟩ ⟨by omega, by omega⟩ (fs205 291 (by first | decide | omega)) (fs205 292 (by first | decide | omega)), R88.f (by omega) (fs205 290 (by first | decide | omega))⟩, ?_, ?_⟩
          · rw [zst_f k5 (fs205 290 (by first | decide | omega)) (fs205 291 (by first | decide | omega)) (fs205 292 (by first | decide | omega)), h1, k4, fs205 289 (by first | decide | omega)]; exact Z87
          · rw [h1]; exact ⟨h2, h3⟩
        have H91 := ghp206
        have P91 := wp1_cs (xm8 (s0 276)) (s0 268 10) (s205 268 36)
        have Q91 := A91.2.2.2
        refine lv_goto (tgt := 4) hx hb dX11_readsStep_94 (by decide) ?_
        exact ih4 s205 H locs ls hF207 hp206.1.1 hp206.1.2.1 hp206.1.2.2.1 hp206.1.2.2.2.1 (hp206.1.2.2.2.2.1.trans q195) (hp206.1.2.2.2.2.2.1.trans q196) (hp206.1.2.2.2.2.2.2.1.trans q197) (hp206.1.2.2.2.2.2.2.2.1.trans q198) (A91.1) (A91.2.1) (A91.2.2) (by omega) (by have hm := hm_4 (); omega) hW (lv_sub hl [0] rfl)
      refine x_aload_n hx hb hl 0 rfl dX11_readsStep_21 rfl ?_
      refine x_iconst hx hb dX11_readsStep_22 ?_
      refine x_aload_n hx hb hl 0 rfl dX11_readsStep_23 rfl ?_
      refine x_get (j := 9) (v := .int (xJ (s_4 268 9))) hx hb hown hT hE hW cls_X11 (Or.inl (by decide)) (so_268 h0 g _) (by decide) rfl wq1194 dX11_readsStep_24 ?_
      refine x_rd hW (fun x208 ex208 rx208 => ?_)
      have bx208 : 0 ≤ x208 ∧ x208 ≤ s_4 268 10 ∧ s_4 268 10 ≤ 240 := by rw [ex208]; exact q4_3
      refine x_goi (x_runV (As := [.int (xJ 5), .int (xJ x208)]) hx hb hml hown hT hE hW hl.1 (Or.inl (by decide)) (so_268 h0 g _) rfl cf_X11_wrongAt wq1401 wq107 wq1399 (c_X11_wrongAtW l D g T h0 s_4 hW.2.1 5 (by decide) x208 rx208 (by omega) q4_0 q4_1 q4_2 q4_3) ⟨rfl, rfl, ⟨by decide, by decide⟩, ⟨by decide, by decide⟩⟩ rfl rfl (Nat.le_of_ble_eq_true rfl) dX11_readsStep_27) hW (fun x209 s210 H locs rx209 hp211 hW => ?_)
      obtain ⟨fs210, hp211⟩ := hp211
      have hF212 := hF_4.call fs210 (fun k h => by omega)
      have ghp211 := hp211.2
      rw [eQ]
      exact x_zret hx hb hr hlk hW (by omega) ⟨hF212, ⟨hp211.1.1, hp211.1.2.1, hp211.1.2.2.1, hp211.1.2.2.2.1, (hp211.1.2.2.2.2.1.trans q4_4), (hp211.1.2.2.2.2.2.1.trans q4_5), (hp211.1.2.2.2.2.2.2.1.trans q4_6), trivial⟩, by
          have z := v4_1.x.five (p1 := s_4 268 9) (by omega) v4_2.2 (by omega) (by omega)
          exact Or.inl ⟨by omega, by omega, by omega, by omega⟩⟩ dX11_readsStep_30
  exact L4 ((241 - s2 268 9 : Int).toNat + 1) s2 H locs ls hF4 hp3.1.1 hp3.1.2.1 hp3.1.2.2.1 hp3.1.2.2.2.1 (hp3.1.2.2.2.2.1.trans k268_8) (hp3.1.2.2.2.2.2.1.trans k268_58) (hp3.1.2.2.2.2.2.2.1.trans k268_10) (hp3.1.2.2.2.2.2.2.2.1.trans k268_34) (A1.1) (A1.2.1) (A1.2.2) (by omega) (Nat.lt_succ_self _) hW (lv_sub hl [0] rfl)
